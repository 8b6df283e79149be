
/-! ints as images of whole numbers -/
def iI (z : Int) : Int32 := Int32.ofInt z
theorem iI_add (a b : Int) : iI a + iI b = iI (a + b) := (Int32.ofInt_add a b).symm
theorem iI_sub (a b : Int) : iI a - iI b = iI (a - b) := (Int32.ofInt_sub a b).symm
theorem iI_mul (a b : Int) : iI a * iI b = iI (a * b) := (Int32.ofInt_mul a b).symm
theorem iI_toInt {z : Int} (h1 : -2147483648 ≤ z) (h2 : z < 2147483648) : (iI z).toInt = z := Int32.toInt_ofInt_of_le h1 h2
theorem iI_self (x : Int32) : iI x.toInt = x := Int32.ofInt_toInt x
theorem iI_bd (x : Int32) : -2147483648 ≤ x.toInt ∧ x.toInt < 2147483648 := ⟨Int32.le_toInt x, Int32.toInt_lt x⟩
def b31 (z : Int) : Prop := -2147483648 ≤ z ∧ z < 2147483648
theorem iI_lt {a b : Int} (ha : b31 a) (hb : b31 b) : iI a < iI b ↔ a < b := by
  rw [Int32.lt_iff_toInt_lt, iI_toInt ha.1 ha.2, iI_toInt hb.1 hb.2]
theorem iI_le {a b : Int} (ha : b31 a) (hb : b31 b) : iI a ≤ iI b ↔ a ≤ b := by
  rw [Int32.le_iff_toInt_le, iI_toInt ha.1 ha.2, iI_toInt hb.1 hb.2]
theorem iI_eq {a b : Int} (ha : b31 a) (hb : b31 b) : iI a = iI b ↔ a = b := by
  rw [← Int32.toInt_inj, iI_toInt ha.1 ha.2, iI_toInt hb.1 hb.2]
theorem iI_0 : iI 0 = 0 := rfl
theorem iI_cl {z : Int} {k : Nat} (hz : z = (k : Int)) (hk : k < 2147483648) : (iI z).toNatClampNeg = k := by
  show (iI z).toInt.toNat = k
  rw [iI_toInt (by omega) (by omega)]
  omega
theorem iI_in {z : Int} {k n : Nat} (hz : z = (k : Int)) (hk : k < n) (hn : n < 2147483648) : vp_in (iI z) n := by
  intro h
  rw [iI_cl hz (by omega)] at h
  rcases h with h | h
  · rw [show (0 : Int32) = iI 0 from rfl, iI_lt ⟨by omega, by omega⟩ ⟨by omega, by omega⟩] at h
    omega
  · omega
theorem iI_nI (n : Nat) : iI (n : Int) = nI n := Int32.ofInt_eq_ofNat
theorem b31_lit (z : Int) (h : (decide (-2147483648 ≤ z) && decide (z < 2147483648)) = true) : b31 z := by
  rw [Bool.and_eq_true] at h
  exact ⟨of_decide_eq_true h.1, of_decide_eq_true h.2⟩
/-! the class ids of the worlds: the classes', char[], int[], long[], double[] -/
abbrev vG : Type := va_G × (ClassId × ClassId × ClassId × ClassId)
abbrev v_T (g : vG) : List (ClassId × FieldType) := [(g.2.1, .char), (g.2.2.1, .int), (g.2.2.2.1, .long), (g.2.2.2.2, .double)]
/-- the links of the nest mates' private methods -/
def v_N (U : State) : Prop := va_Nw (.methodLinkNest RX0 48 yX5_lowBit "MergeAtelier") U ∧ va_Nw (.methodLinkNest RX0 52 yX5_highBit "MergeAtelier") U ∧ va_Nw (.methodLinkNest RX0 59 yX5_hasNumber "MergeAtelier") U ∧ va_Nw (.methodLinkNest RX4 38 yX5_lowBit "MergeAtelier") U ∧ va_Nw (.methodLinkNest RX4 42 yX5_highBit "MergeAtelier") U ∧ va_Nw (.methodLinkNest RX4 66 yX5_hasNumber "MergeAtelier") U
def v_K (g : vG) (U : State) : Prop := va_K g.1 vwCl (v_T g) U ∧ v_N U
theorem v_N.warm {s U : State} (hW : s.WarmedH U.vm) (h : v_N s) : v_N U := ⟨h.1.warmM hW, h.2.1.warmM hW, h.2.2.1.warmM hW, h.2.2.2.1.warmM hW, h.2.2.2.2.1.warmM hW, h.2.2.2.2.2.warmM hW⟩
theorem v_K.warm {g : vG} {s U : State} (hW : s.WarmedH U.vm) (h : v_K g s) : v_K g U := ⟨va_K.moved hW.alike h.1, h.2.warm hW⟩
theorem v_N.same {u U : State} (hvm : u.vm = U.vm) (h : v_N u) : v_N U := ⟨va_Nw.same rfl hvm h.1, va_Nw.same rfl hvm h.2.1, va_Nw.same rfl hvm h.2.2.1, va_Nw.same rfl hvm h.2.2.2.1, va_Nw.same rfl hvm h.2.2.2.2.1, va_Nw.same rfl hvm h.2.2.2.2.2⟩
theorem v_K.same {g : vG} {u U : State} (hvm : u.vm = U.vm) (h : v_K g u) : v_K g U := ⟨va_K.moved (hvm ▸ Vm.Alike.refl u.vm) h.1, h.2.same hvm⟩
abbrev cI (g : vG) (a n : Nat) (f : Nat → Int) : Nat × va_E := (a, .inl (g.2.2.1, n, .inl (fun k => iI (f k))))
abbrev cC (g : vG) (a n : Nat) (f : Nat → Int) : Nat × va_E := (a, .inl (g.2.1, n, .inl (fun k => iI (f k))))
abbrev cL (g : vG) (a n : Nat) (f : Nat → Int64) : Nat × va_E := (a, .inl (g.2.2.2.1, n, .inr (.inl f)))
abbrev cD (g : vG) (a n : Nat) (f : Nat → UInt64) : Nat × va_E := (a, .inl (g.2.2.2.2, n, .inr (.inr (.inr (.inl f)))))
abbrev cO (a ci : Nat) (fs : List Value) : Nat × va_E := (a, .inr (ci, fs))
def updZ (f : Nat → Int) (k : Nat) (x : Int) : Nat → Int := fun j => if j = k then x else f j
def updN (f : Nat → Nat) (k : Nat) (x : Nat) : Nat → Nat := fun j => if j = k then x else f j
theorem updZ_s (f : Nat → Int) (k : Nat) (x : Int) : updZ f k x k = x := if_pos rfl
theorem updZ_n {f : Nat → Int} {k j : Nat} {x : Int} (h : j ≠ k) : updZ f k x j = f j := if_neg h
theorem updN_s (f : Nat → Nat) (k : Nat) (x : Nat) : updN f k x k = x := if_pos rfl
theorem updN_n {f : Nat → Nat} {k j : Nat} {x : Nat} (h : j ≠ k) : updN f k x j = f j := if_neg h
theorem updZ_iI (f : Nat → Int) (k : Nat) (x : Int) : upd (fun j => iI (f j)) k (iI x) = fun j => iI (updZ f k x j) := by
  funext j
  unfold upd updZ
  by_cases h : j = k
  · rw [if_pos h, if_pos h]
  · rw [if_neg h, if_neg h]
def Cx (p : Program) (s : State) (m : MethodId) (args : Array Value) (c : Code) (g : vG) (A : Nat → Prop) (cc : ByteArray) (nL : Nat) (Ts : List Cond) (own : String) : Prop :=
  p.tables.exec = Jvm.exec ∧ c.code = cc ∧ c.maxLocals = nL ∧ s.vm.findClass own = some m.cls ∧ (∀ w ∈ Ts, w.before args s = true) ∧ v_K g s ∧ ∀ q, s.heap.size ≤ q → A q
def Vx (p : Program) (l : Launch) (e : Env) (R : Room) (s : State) (m : MethodId) (args : Array Value) (below : List Frame) (meth : Method) (c : Code) (g : vG) (A : Nat → Prop) (nL : Nat) (Q : State → Prop) (k n : Nat) (ws : va_W) (lv : List (Nat × Value)) (pc : Nat) (st : List Value) : Prop :=
  ∀ (H : Heap) (locs : List Loc) (ls : Array Slot), va_P g.1 vwCl ws H → va_D A ws → va_S A s.heap H locs → lv_has ls nL lv → W p l e R s m args below meth c H locs k n Q (F0 m pc ls st)
section VV
variable {p : Program} {l : Launch} {e : Env} {R : Room} {s : State} {m : MethodId} {args : Array Value} {below : List Frame} {meth : Method} {c : Code} {g : vG} {A : Nat → Prop} {nL : Nat} {Q : State → Prop} {k n : Nat} {ws : va_W} {lv : List (Nat × Value)} {pc : Nat} {st : List Value} {cc : ByteArray} {Ts : List Cond} {own : String}
theorem v_iconst (C : Cx p s m args c g A cc nL Ts own) {z : Int} (hd : decode cc pc = .ok (.iconst z, 1)) (kk : Vx p l e R s m args below meth c g A nL Q k n (ws) (lv) (pc + 1) (.int (iI z) :: st)) : Vx p l e R s m args below meth c g A nL Q k n (ws) (lv) (pc) (st) := fun H locs ls hP hD hS hL => lv_iconst C.1 C.2.1 hd rfl (kk H locs ls hP hD hS hL)
theorem v_bipush (C : Cx p s m args c g A cc nL Ts own) {z : Int} (hd : decode cc pc = .ok (.bipush z, 2)) (hv : (Int8.ofInt z).toInt32 = iI z) (kk : Vx p l e R s m args below meth c g A nL Q k n (ws) (lv) (pc + 2) (.int (iI z) :: st)) : Vx p l e R s m args below meth c g A nL Q k n (ws) (lv) (pc) (st) := fun H locs ls hP hD hS hL => lv_bipush C.1 C.2.1 hd hv (kk H locs ls hP hD hS hL)
theorem v_sipush (C : Cx p s m args c g A cc nL Ts own) {z : Int} (hd : decode cc pc = .ok (.sipush z, 3)) (hv : (Int16.ofInt z).toInt32 = iI z) (kk : Vx p l e R s m args below meth c g A nL Q k n (ws) (lv) (pc + 3) (.int (iI z) :: st)) : Vx p l e R s m args below meth c g A nL Q k n (ws) (lv) (pc) (st) := fun H locs ls hP hD hS hL => lv_sipush C.1 C.2.1 hd hv (kk H locs ls hP hD hS hL)
theorem v_lconst (C : Cx p s m args c g A cc nL Ts own) {i : Fin 2} {v : Int64} (hd : decode cc pc = .ok (.lconst i, 1)) (hv : Int64.ofNat (i : Nat) = v) (kk : Vx p l e R s m args below meth c g A nL Q k n (ws) (lv) (pc + 1) (.long v :: st)) : Vx p l e R s m args below meth c g A nL Q k n (ws) (lv) (pc) (st) := fun H locs ls hP hD hS hL => lv_lconst C.1 C.2.1 hd hv (kk H locs ls hP hD hS hL)
theorem v_iload_n (C : Cx p s m args c g A cc nL Ts own) {i : Fin 4} {j : Nat} {x : Int32} (hd : decode cc pc = .ok (.iload_n i, 1)) (hi : (i : Nat) = j) (q : Nat) (hq : lv[q]? = some (j, .int x)) (kk : Vx p l e R s m args below meth c g A nL Q k n (ws) (lv) (pc + 1) (.int x :: st)) : Vx p l e R s m args below meth c g A nL Q k n (ws) (lv) (pc) (st) := fun H locs ls hP hD hS hL => lv_iload_n C.1 C.2.1 hd hi (lv_at hL q hq) (kk H locs ls hP hD hS hL)
theorem v_iload (C : Cx p s m args c g A cc nL Ts own) {j : Nat} {x : Int32} (hd : decode cc pc = .ok (.iload j, 2)) (q : Nat) (hq : lv[q]? = some (j, .int x)) (kk : Vx p l e R s m args below meth c g A nL Q k n (ws) (lv) (pc + 2) (.int x :: st)) : Vx p l e R s m args below meth c g A nL Q k n (ws) (lv) (pc) (st) := fun H locs ls hP hD hS hL => lv_iload C.1 C.2.1 hd (lv_at hL q hq) (kk H locs ls hP hD hS hL)
theorem v_lload_n (C : Cx p s m args c g A cc nL Ts own) {i : Fin 4} {j : Nat} {x : Int64} (hd : decode cc pc = .ok (.lload_n i, 1)) (hi : (i : Nat) = j) (q : Nat) (hq : lv[q]? = some (j, .long x)) (kk : Vx p l e R s m args below meth c g A nL Q k n (ws) (lv) (pc + 1) (.long x :: st)) : Vx p l e R s m args below meth c g A nL Q k n (ws) (lv) (pc) (st) := fun H locs ls hP hD hS hL => lv_lload_n C.1 C.2.1 hd hi (lv_at hL q hq) (kk H locs ls hP hD hS hL)
theorem v_lload (C : Cx p s m args c g A cc nL Ts own) {j : Nat} {x : Int64} (hd : decode cc pc = .ok (.lload j, 2)) (q : Nat) (hq : lv[q]? = some (j, .long x)) (kk : Vx p l e R s m args below meth c g A nL Q k n (ws) (lv) (pc + 2) (.long x :: st)) : Vx p l e R s m args below meth c g A nL Q k n (ws) (lv) (pc) (st) := fun H locs ls hP hD hS hL => lv_lload C.1 C.2.1 hd (lv_at hL q hq) (kk H locs ls hP hD hS hL)
theorem v_aload_n (C : Cx p s m args c g A cc nL Ts own) {i : Fin 4} {j : Nat} {x : Nat} (hd : decode cc pc = .ok (.aload_n i, 1)) (hi : (i : Nat) = j) (q : Nat) (hq : lv[q]? = some (j, .ref x)) (kk : Vx p l e R s m args below meth c g A nL Q k n (ws) (lv) (pc + 1) (.ref x :: st)) : Vx p l e R s m args below meth c g A nL Q k n (ws) (lv) (pc) (st) := fun H locs ls hP hD hS hL => lv_aload_n C.1 C.2.1 hd hi (lv_at hL q hq) (kk H locs ls hP hD hS hL)
theorem v_aload (C : Cx p s m args c g A cc nL Ts own) {j : Nat} {x : Nat} (hd : decode cc pc = .ok (.aload j, 2)) (q : Nat) (hq : lv[q]? = some (j, .ref x)) (kk : Vx p l e R s m args below meth c g A nL Q k n (ws) (lv) (pc + 2) (.ref x :: st)) : Vx p l e R s m args below meth c g A nL Q k n (ws) (lv) (pc) (st) := fun H locs ls hP hD hS hL => lv_aload C.1 C.2.1 hd (lv_at hL q hq) (kk H locs ls hP hD hS hL)
theorem v_fload_n (C : Cx p s m args c g A cc nL Ts own) {i : Fin 4} {j : Nat} {x : UInt32} (hd : decode cc pc = .ok (.fload_n i, 1)) (hi : (i : Nat) = j) (q : Nat) (hq : lv[q]? = some (j, .float x)) (kk : Vx p l e R s m args below meth c g A nL Q k n (ws) (lv) (pc + 1) (.float x :: st)) : Vx p l e R s m args below meth c g A nL Q k n (ws) (lv) (pc) (st) := fun H locs ls hP hD hS hL => lv_fload_n C.1 C.2.1 hd hi (lv_at hL q hq) (kk H locs ls hP hD hS hL)
theorem v_fload (C : Cx p s m args c g A cc nL Ts own) {j : Nat} {x : UInt32} (hd : decode cc pc = .ok (.fload j, 2)) (q : Nat) (hq : lv[q]? = some (j, .float x)) (kk : Vx p l e R s m args below meth c g A nL Q k n (ws) (lv) (pc + 2) (.float x :: st)) : Vx p l e R s m args below meth c g A nL Q k n (ws) (lv) (pc) (st) := fun H locs ls hP hD hS hL => lv_fload C.1 C.2.1 hd (lv_at hL q hq) (kk H locs ls hP hD hS hL)
theorem v_istore_n (C : Cx p s m args c g A cc nL Ts own) {i : Fin 4} {j : Nat} {x : Int32} (lv' : List (Nat × Value)) (hd : decode cc pc = .ok (.istore_n i, 1)) (hi : (i : Nat) = j) (hn : j < nL) (hl : (j, Value.int x) :: (lv.filter (fun q => !(q.1 == j) && !(q.1 + 1 == j && q.2.category == 2))) = lv') (kk : Vx p l e R s m args below meth c g A nL Q k n (ws) (lv') (pc + 1) (st)) : Vx p l e R s m args below meth c g A nL Q k n (ws) (lv) (pc) (.int x :: st) := fun H locs ls hP hD hS hL => lv_istore_n C.1 C.2.1 hd hi hL hn hl (fun ls' hL' => kk H locs ls' hP hD hS hL')
theorem v_istore (C : Cx p s m args c g A cc nL Ts own) {j : Nat} {x : Int32} (lv' : List (Nat × Value)) (hd : decode cc pc = .ok (.istore j, 2)) (hn : j < nL) (hl : (j, Value.int x) :: (lv.filter (fun q => !(q.1 == j) && !(q.1 + 1 == j && q.2.category == 2))) = lv') (kk : Vx p l e R s m args below meth c g A nL Q k n (ws) (lv') (pc + 2) (st)) : Vx p l e R s m args below meth c g A nL Q k n (ws) (lv) (pc) (.int x :: st) := fun H locs ls hP hD hS hL => lv_istore C.1 C.2.1 hd hL hn hl (fun ls' hL' => kk H locs ls' hP hD hS hL')
theorem v_lstore_n (C : Cx p s m args c g A cc nL Ts own) {i : Fin 4} {j : Nat} {x : Int64} (lv' : List (Nat × Value)) (hd : decode cc pc = .ok (.lstore_n i, 1)) (hi : (i : Nat) = j) (hn : j + 1 < nL) (hl : (j, Value.long x) :: (lv.filter (fun q => !(q.1 == j) && (!(q.1 == j + 1) && !(q.1 + 1 == j && q.2.category == 2)))) = lv') (kk : Vx p l e R s m args below meth c g A nL Q k n (ws) (lv') (pc + 1) (st)) : Vx p l e R s m args below meth c g A nL Q k n (ws) (lv) (pc) (.long x :: st) := fun H locs ls hP hD hS hL => lv_lstore_n C.1 C.2.1 hd hi hL hn hl (fun ls' hL' => kk H locs ls' hP hD hS hL')
theorem v_lstore (C : Cx p s m args c g A cc nL Ts own) {j : Nat} {x : Int64} (lv' : List (Nat × Value)) (hd : decode cc pc = .ok (.lstore j, 2)) (hn : j + 1 < nL) (hl : (j, Value.long x) :: (lv.filter (fun q => !(q.1 == j) && (!(q.1 == j + 1) && !(q.1 + 1 == j && q.2.category == 2)))) = lv') (kk : Vx p l e R s m args below meth c g A nL Q k n (ws) (lv') (pc + 2) (st)) : Vx p l e R s m args below meth c g A nL Q k n (ws) (lv) (pc) (.long x :: st) := fun H locs ls hP hD hS hL => lv_lstore C.1 C.2.1 hd hL hn hl (fun ls' hL' => kk H locs ls' hP hD hS hL')
theorem v_astore_n (C : Cx p s m args c g A cc nL Ts own) {i : Fin 4} {j : Nat} {x : Nat} (lv' : List (Nat × Value)) (hd : decode cc pc = .ok (.astore_n i, 1)) (hi : (i : Nat) = j) (hn : j < nL) (hl : (j, Value.ref x) :: (lv.filter (fun q => !(q.1 == j) && !(q.1 + 1 == j && q.2.category == 2))) = lv') (kk : Vx p l e R s m args below meth c g A nL Q k n (ws) (lv') (pc + 1) (st)) : Vx p l e R s m args below meth c g A nL Q k n (ws) (lv) (pc) (.ref x :: st) := fun H locs ls hP hD hS hL => lv_astore_n C.1 C.2.1 hd hi hL hn hl (fun ls' hL' => kk H locs ls' hP hD hS hL')
theorem v_astore (C : Cx p s m args c g A cc nL Ts own) {j : Nat} {x : Nat} (lv' : List (Nat × Value)) (hd : decode cc pc = .ok (.astore j, 2)) (hn : j < nL) (hl : (j, Value.ref x) :: (lv.filter (fun q => !(q.1 == j) && !(q.1 + 1 == j && q.2.category == 2))) = lv') (kk : Vx p l e R s m args below meth c g A nL Q k n (ws) (lv') (pc + 2) (st)) : Vx p l e R s m args below meth c g A nL Q k n (ws) (lv) (pc) (.ref x :: st) := fun H locs ls hP hD hS hL => lv_astore C.1 C.2.1 hd hL hn hl (fun ls' hL' => kk H locs ls' hP hD hS hL')
theorem v_fstore (C : Cx p s m args c g A cc nL Ts own) {j : Nat} {x : UInt32} (lv' : List (Nat × Value)) (hd : decode cc pc = .ok (.fstore j, 2)) (hn : j < nL) (hl : (j, Value.float x) :: (lv.filter (fun q => !(q.1 == j) && !(q.1 + 1 == j && q.2.category == 2))) = lv') (kk : Vx p l e R s m args below meth c g A nL Q k n (ws) (lv') (pc + 2) (st)) : Vx p l e R s m args below meth c g A nL Q k n (ws) (lv) (pc) (.float x :: st) := fun H locs ls hP hD hS hL => lv_fstore C.1 C.2.1 hd hL hn hl (fun ls' hL' => kk H locs ls' hP hD hS hL')
theorem v_iinc (C : Cx p s m args c g A cc nL Ts own) {j : Nat} {z x : Int} (lv' : List (Nat × Value)) (hd : decode cc pc = .ok (.iinc j z, 3)) (q : Nat) (hq : lv[q]? = some (j, .int (iI x))) (hn : j < nL) (hl : (j, Value.int (iI (x + z))) :: (lv.filter (fun q => !(q.1 == j) && !(q.1 + 1 == j && q.2.category == 2))) = lv') (kk : Vx p l e R s m args below meth c g A nL Q k n (ws) (lv') (pc + 3) (st)) : Vx p l e R s m args below meth c g A nL Q k n (ws) (lv) (pc) (st) := fun H locs ls hP hD hS hL => lv_iinc C.1 C.2.1 hd hL hq (iI_add x z) hn hl (fun ls' hL' => kk H locs ls' hP hD hS hL')
theorem v_iadd (C : Cx p s m args c g A cc nL Ts own) {x y : Int} (hd : decode cc pc = .ok (.iadd, 1)) (kk : Vx p l e R s m args below meth c g A nL Q k n (ws) (lv) (pc + 1) (.int (iI (x + y)) :: st)) : Vx p l e R s m args below meth c g A nL Q k n (ws) (lv) (pc) (.int (iI y) :: .int (iI x) :: st) := fun H locs ls hP hD hS hL => lv_iadd C.1 C.2.1 hd ((iI_add x y).symm ▸ kk H locs ls hP hD hS hL)
theorem v_isub (C : Cx p s m args c g A cc nL Ts own) {x y : Int} (hd : decode cc pc = .ok (.isub, 1)) (kk : Vx p l e R s m args below meth c g A nL Q k n (ws) (lv) (pc + 1) (.int (iI (x - y)) :: st)) : Vx p l e R s m args below meth c g A nL Q k n (ws) (lv) (pc) (.int (iI y) :: .int (iI x) :: st) := fun H locs ls hP hD hS hL => lv_isub C.1 C.2.1 hd ((iI_sub x y).symm ▸ kk H locs ls hP hD hS hL)
theorem v_imul (C : Cx p s m args c g A cc nL Ts own) {x y : Int} (hd : decode cc pc = .ok (.imul, 1)) (kk : Vx p l e R s m args below meth c g A nL Q k n (ws) (lv) (pc + 1) (.int (iI (x * y)) :: st)) : Vx p l e R s m args below meth c g A nL Q k n (ws) (lv) (pc) (.int (iI y) :: .int (iI x) :: st) := fun H locs ls hP hD hS hL => lv_imul C.1 C.2.1 hd ((iI_mul x y).symm ▸ kk H locs ls hP hD hS hL)
theorem v_iandR (C : Cx p s m args c g A cc nL Ts own) {x y : Int32} (hd : decode cc pc = .ok (.iand, 1)) (kk : Vx p l e R s m args below meth c g A nL Q k n (ws) (lv) (pc + 1) (.int (x &&& y) :: st)) : Vx p l e R s m args below meth c g A nL Q k n (ws) (lv) (pc) (.int y :: .int x :: st) := fun H locs ls hP hD hS hL => lv_iand C.1 C.2.1 hd (kk H locs ls hP hD hS hL)
theorem v_ladd (C : Cx p s m args c g A cc nL Ts own) {x y : Int64} (hd : decode cc pc = .ok (.ladd, 1)) (kk : Vx p l e R s m args below meth c g A nL Q k n (ws) (lv) (pc + 1) (.long (x + y) :: st)) : Vx p l e R s m args below meth c g A nL Q k n (ws) (lv) (pc) (.long y :: .long x :: st) := fun H locs ls hP hD hS hL => lv_ladd C.1 C.2.1 hd (kk H locs ls hP hD hS hL)
theorem v_lsub (C : Cx p s m args c g A cc nL Ts own) {x y : Int64} (hd : decode cc pc = .ok (.lsub, 1)) (kk : Vx p l e R s m args below meth c g A nL Q k n (ws) (lv) (pc + 1) (.long (x - y) :: st)) : Vx p l e R s m args below meth c g A nL Q k n (ws) (lv) (pc) (.long y :: .long x :: st) := fun H locs ls hP hD hS hL => lv_lsub C.1 C.2.1 hd (kk H locs ls hP hD hS hL)
theorem v_land (C : Cx p s m args c g A cc nL Ts own) {x y : Int64} (hd : decode cc pc = .ok (.land, 1)) (kk : Vx p l e R s m args below meth c g A nL Q k n (ws) (lv) (pc + 1) (.long (x &&& y) :: st)) : Vx p l e R s m args below meth c g A nL Q k n (ws) (lv) (pc) (.long y :: .long x :: st) := fun H locs ls hP hD hS hL => lv_land C.1 C.2.1 hd (kk H locs ls hP hD hS hL)
theorem v_lor (C : Cx p s m args c g A cc nL Ts own) {x y : Int64} (hd : decode cc pc = .ok (.lor, 1)) (kk : Vx p l e R s m args below meth c g A nL Q k n (ws) (lv) (pc + 1) (.long (x ||| y) :: st)) : Vx p l e R s m args below meth c g A nL Q k n (ws) (lv) (pc) (.long y :: .long x :: st) := fun H locs ls hP hD hS hL => lv_lor C.1 C.2.1 hd (kk H locs ls hP hD hS hL)
theorem v_lneg (C : Cx p s m args c g A cc nL Ts own) {x : Int64} (hd : decode cc pc = .ok (.lneg, 1)) (kk : Vx p l e R s m args below meth c g A nL Q k n (ws) (lv) (pc + 1) (.long (-x) :: st)) : Vx p l e R s m args below meth c g A nL Q k n (ws) (lv) (pc) (.long x :: st) := fun H locs ls hP hD hS hL => lv_lneg C.1 C.2.1 hd (kk H locs ls hP hD hS hL)
theorem v_lshl (C : Cx p s m args c g A cc nL Ts own) {x v : Int64} {y : Int32} (hd : decode cc pc = .ok (.lshl, 1)) (hv : x <<< (y.toInt64 &&& 63) = v) (kk : Vx p l e R s m args below meth c g A nL Q k n (ws) (lv) (pc + 1) (.long v :: st)) : Vx p l e R s m args below meth c g A nL Q k n (ws) (lv) (pc) (.int y :: .long x :: st) := fun H locs ls hP hD hS hL => lv_lshl C.1 C.2.1 hd hv (kk H locs ls hP hD hS hL)
theorem v_lshr (C : Cx p s m args c g A cc nL Ts own) {x v : Int64} {y : Int32} (hd : decode cc pc = .ok (.lshr, 1)) (hv : x >>> (y.toInt64 &&& 63) = v) (kk : Vx p l e R s m args below meth c g A nL Q k n (ws) (lv) (pc + 1) (.long v :: st)) : Vx p l e R s m args below meth c g A nL Q k n (ws) (lv) (pc) (.int y :: .long x :: st) := fun H locs ls hP hD hS hL => lv_lshr C.1 C.2.1 hd hv (kk H locs ls hP hD hS hL)
theorem v_lushr (C : Cx p s m args c g A cc nL Ts own) {x v : Int64} {y : Int32} (hd : decode cc pc = .ok (.lushr, 1)) (hv : (x.toUInt64 >>> (y.toInt64.toUInt64 &&& Int64.toUInt64 63)).toInt64 = v) (kk : Vx p l e R s m args below meth c g A nL Q k n (ws) (lv) (pc + 1) (.long v :: st)) : Vx p l e R s m args below meth c g A nL Q k n (ws) (lv) (pc) (.int y :: .long x :: st) := fun H locs ls hP hD hS hL => lv_lushr C.1 C.2.1 hd hv (kk H locs ls hP hD hS hL)
theorem v_i2l (C : Cx p s m args c g A cc nL Ts own) {x : Int32} {v : Int64} (hd : decode cc pc = .ok (.i2l, 1)) (hv : x.toInt64 = v) (kk : Vx p l e R s m args below meth c g A nL Q k n (ws) (lv) (pc + 1) (.long v :: st)) : Vx p l e R s m args below meth c g A nL Q k n (ws) (lv) (pc) (.int x :: st) := fun H locs ls hP hD hS hL => lv_i2l C.1 C.2.1 hd hv (kk H locs ls hP hD hS hL)
theorem v_l2i (C : Cx p s m args c g A cc nL Ts own) {x : Int64} {v : Int32} (hd : decode cc pc = .ok (.l2i, 1)) (hv : x.toInt32 = v) (kk : Vx p l e R s m args below meth c g A nL Q k n (ws) (lv) (pc + 1) (.int v :: st)) : Vx p l e R s m args below meth c g A nL Q k n (ws) (lv) (pc) (.long x :: st) := fun H locs ls hP hD hS hL => lv_l2i C.1 C.2.1 hd hv (kk H locs ls hP hD hS hL)
theorem v_i2c (C : Cx p s m args c g A cc nL Ts own) {x v : Int32} (hd : decode cc pc = .ok (.i2c, 1)) (hv : (x.toUInt32 % 65536).toInt32 = v) (kk : Vx p l e R s m args below meth c g A nL Q k n (ws) (lv) (pc + 1) (.int v :: st)) : Vx p l e R s m args below meth c g A nL Q k n (ws) (lv) (pc) (.int x :: st) := fun H locs ls hP hD hS hL => lv_i2c C.1 C.2.1 hd hv (kk H locs ls hP hD hS hL)
theorem v_lcmp (C : Cx p s m args c g A cc nL Ts own) {x y : Int64} (hd : decode cc pc = .ok (.lcmp, 1)) (kk : Vx p l e R s m args below meth c g A nL Q k n (ws) (lv) (pc + 1) (.int (lg_cmp x y) :: st)) : Vx p l e R s m args below meth c g A nL Q k n (ws) (lv) (pc) (.long y :: .long x :: st) := fun H locs ls hP hD hS hL => W.lcmp C.1 C.2.1 hd (kk H locs ls hP hD hS hL)
theorem v_i2f (C : Cx p s m args c g A cc nL Ts own) {x : Int32} (hd : decode cc pc = .ok (.i2f, 1)) (kk : Vx p l e R s m args below meth c g A nL Q k n (ws) (lv) (pc + 1) (.float (FP.i2f x) :: st)) : Vx p l e R s m args below meth c g A nL Q k n (ws) (lv) (pc) (.int x :: st) := fun H locs ls hP hD hS hL => lv_i2f C.1 C.2.1 hd (kk H locs ls hP hD hS hL)
theorem v_fdiv (C : Cx p s m args c g A cc nL Ts own) {x y : UInt32} (hd : decode cc pc = .ok (.fdiv, 1)) (hne : vf_n32 (FP.fdiv x y)) (kk : Vx p l e R s m args below meth c g A nL Q k n (ws) (lv) (pc + 1) (.float (FP.fdiv x y) :: st)) : Vx p l e R s m args below meth c g A nL Q k n (ws) (lv) (pc) (.float y :: .float x :: st) := fun H locs ls hP hD hS hL => lv_fdiv C.1 C.2.1 hd hne (kk H locs ls hP hD hS hL)
theorem v_fconst0 (C : Cx p s m args c g A cc nL Ts own) (hd : decode cc pc = .ok (.fconst 0, 1)) (kk : Vx p l e R s m args below meth c g A nL Q k n (ws) (lv) (pc + 1) (.float 0 :: st)) : Vx p l e R s m args below meth c g A nL Q k n (ws) (lv) (pc) (st) := fun H locs ls hP hD hS hL => lv_fconst0 C.1 C.2.1 hd (kk H locs ls hP hD hS hL)
theorem v_f2d (C : Cx p s m args c g A cc nL Ts own) {x : UInt32} (hd : decode cc pc = .ok (.f2d, 1)) (hne : vf_n64 (FP.f2d x)) (kk : Vx p l e R s m args below meth c g A nL Q k n (ws) (lv) (pc + 1) (.double (FP.f2d x) :: st)) : Vx p l e R s m args below meth c g A nL Q k n (ws) (lv) (pc) (.float x :: st) := fun H locs ls hP hD hS hL => lv_f2d C.1 C.2.1 hd hne (kk H locs ls hP hD hS hL)
theorem v_dcmp (C : Cx p s m args c g A cc nL Ts own) {x y : UInt64} {op : CmpOp} (hd : decode cc pc = .ok (.dcmp op, 1)) (kk : Vx p l e R s m args below meth c g A nL Q k n (ws) (lv) (pc + 1) (.int (Op.cmpValue (FP.dcmp x y) op) :: st)) : Vx p l e R s m args below meth c g A nL Q k n (ws) (lv) (pc) (.double y :: .double x :: st) := fun H locs ls hP hD hS hL => lv_dcmp C.1 C.2.1 hd (kk H locs ls hP hD hS hL)
theorem v_fcmp (C : Cx p s m args c g A cc nL Ts own) {x y : UInt32} {op : CmpOp} (hd : decode cc pc = .ok (.fcmp op, 1)) (kk : Vx p l e R s m args below meth c g A nL Q k n (ws) (lv) (pc + 1) (.int (Op.cmpValue (FP.fcmp x y) op) :: st)) : Vx p l e R s m args below meth c g A nL Q k n (ws) (lv) (pc) (.float y :: .float x :: st) := fun H locs ls hP hD hS hL => lv_fcmp C.1 C.2.1 hd (kk H locs ls hP hD hS hL)
theorem v_dup (C : Cx p s m args c g A cc nL Ts own) {a : Value} (hd : decode cc pc = .ok (.dup, 1)) (ha : a.category = 1) (kk : Vx p l e R s m args below meth c g A nL Q k n (ws) (lv) (pc + 1) (a :: a :: st)) : Vx p l e R s m args below meth c g A nL Q k n (ws) (lv) (pc) (a :: st) := fun H locs ls hP hD hS hL => lv_dup C.1 C.2.1 hd ha (kk H locs ls hP hD hS hL)
theorem v_pop (C : Cx p s m args c g A cc nL Ts own) {a : Value} (hd : decode cc pc = .ok (.pop, 1)) (ha : a.category = 1) (kk : Vx p l e R s m args below meth c g A nL Q k n (ws) (lv) (pc + 1) (st)) : Vx p l e R s m args below meth c g A nL Q k n (ws) (lv) (pc) (a :: st) := fun H locs ls hP hD hS hL => lv_pop C.1 C.2.1 hd ha (kk H locs ls hP hD hS hL)
theorem v_dup2 (C : Cx p s m args c g A cc nL Ts own) {a b : Value} (hd : decode cc pc = .ok (.dup2, 1)) (ha : a.category = 1) (hb : b.category = 1) (kk : Vx p l e R s m args below meth c g A nL Q k n (ws) (lv) (pc + 1) (a :: b :: a :: b :: st)) : Vx p l e R s m args below meth c g A nL Q k n (ws) (lv) (pc) (a :: b :: st) := fun H locs ls hP hD hS hL => lv_dup2_11 C.1 C.2.1 hd ha hb (kk H locs ls hP hD hS hL)
theorem v_goto (C : Cx p s m args c g A cc nL Ts own) {off : Int} (tgt : Nat) (hd : decode cc pc = .ok (.goto off, 3)) (ht : (pc : Int) + off = (tgt : Int)) (kk : Vx p l e R s m args below meth c g A nL Q k n (ws) (lv) (tgt) (st)) : Vx p l e R s m args below meth c g A nL Q k n (ws) (lv) (pc) (st) := fun H locs ls hP hD hS hL => lv_goto C.1 C.2.1 hd ht (kk H locs ls hP hD hS hL)
theorem v_cmpT {P P1 : Prop} {K : Prop} (h : P ↔ P1) (kk : P1 → K) : P → K := fun x => kk (h.mp x)
theorem v_cmpF {P P1 N1 : Prop} {K : Prop} (h : P ↔ P1) (hn : ¬ P1 → N1) (kk : N1 → K) : ¬ P → K := fun x => kk (hn fun y => x (h.mpr y))
theorem b31_0 : b31 0 := ⟨by decide, by decide⟩
theorem v_icmp_eq (C : Cx p s m args c g A cc nL Ts own) {x y : Int} {off : Int} (tgt : Nat) (hd : decode cc pc = .ok (.if_icmp .eq off, 3)) (ht : (pc : Int) + off = (tgt : Int)) (hx : b31 x) (hy : b31 y) (kt : x = y → Vx p l e R s m args below meth c g A nL Q k n (ws) (lv) (tgt) (st)) (kf : ¬ x = y → Vx p l e R s m args below meth c g A nL Q k n (ws) (lv) (pc + 3) (st)) : Vx p l e R s m args below meth c g A nL Q k n (ws) (lv) (pc) (.int (iI y) :: .int (iI x) :: st) := fun H locs ls hP hD hS hL => lv_icmp_eq C.1 C.2.1 hd ht (v_cmpT (iI_eq hx hy) fun z => kt z H locs ls hP hD hS hL) (v_cmpF (iI_eq hx hy) (fun z => z) fun z => kf z H locs ls hP hD hS hL)
theorem v_if_eq (C : Cx p s m args c g A cc nL Ts own) {x : Int} {off : Int} (tgt : Nat) (hd : decode cc pc = .ok (.ifCond .eq off, 3)) (ht : (pc : Int) + off = (tgt : Int)) (hx : b31 x) (kt : x = 0 → Vx p l e R s m args below meth c g A nL Q k n (ws) (lv) (tgt) (st)) (kf : ¬ x = 0 → Vx p l e R s m args below meth c g A nL Q k n (ws) (lv) (pc + 3) (st)) : Vx p l e R s m args below meth c g A nL Q k n (ws) (lv) (pc) (.int (iI x) :: st) := fun H locs ls hP hD hS hL => lv_if_eq C.1 C.2.1 hd ht (v_cmpT (iI_eq hx b31_0) fun z => kt z H locs ls hP hD hS hL) (v_cmpF (iI_eq hx b31_0) (fun z => z) fun z => kf z H locs ls hP hD hS hL)
theorem v_icmp_ne (C : Cx p s m args c g A cc nL Ts own) {x y : Int} {off : Int} (tgt : Nat) (hd : decode cc pc = .ok (.if_icmp .ne off, 3)) (ht : (pc : Int) + off = (tgt : Int)) (hx : b31 x) (hy : b31 y) (kt : ¬ x = y → Vx p l e R s m args below meth c g A nL Q k n (ws) (lv) (tgt) (st)) (kf : x = y → Vx p l e R s m args below meth c g A nL Q k n (ws) (lv) (pc + 3) (st)) : Vx p l e R s m args below meth c g A nL Q k n (ws) (lv) (pc) (.int (iI y) :: .int (iI x) :: st) := fun H locs ls hP hD hS hL => lv_icmp_ne C.1 C.2.1 hd ht (v_cmpT (not_congr (iI_eq hx hy)) fun z => kt z H locs ls hP hD hS hL) (v_cmpT (iI_eq hx hy) fun z => kf z H locs ls hP hD hS hL)
theorem v_if_ne (C : Cx p s m args c g A cc nL Ts own) {x : Int} {off : Int} (tgt : Nat) (hd : decode cc pc = .ok (.ifCond .ne off, 3)) (ht : (pc : Int) + off = (tgt : Int)) (hx : b31 x) (kt : ¬ x = 0 → Vx p l e R s m args below meth c g A nL Q k n (ws) (lv) (tgt) (st)) (kf : x = 0 → Vx p l e R s m args below meth c g A nL Q k n (ws) (lv) (pc + 3) (st)) : Vx p l e R s m args below meth c g A nL Q k n (ws) (lv) (pc) (.int (iI x) :: st) := fun H locs ls hP hD hS hL => lv_if_ne C.1 C.2.1 hd ht (v_cmpT (not_congr (iI_eq hx b31_0)) fun z => kt z H locs ls hP hD hS hL) (v_cmpT (iI_eq hx b31_0) fun z => kf z H locs ls hP hD hS hL)
theorem v_icmp_lt (C : Cx p s m args c g A cc nL Ts own) {x y : Int} {off : Int} (tgt : Nat) (hd : decode cc pc = .ok (.if_icmp .lt off, 3)) (ht : (pc : Int) + off = (tgt : Int)) (hx : b31 x) (hy : b31 y) (kt : x < y → Vx p l e R s m args below meth c g A nL Q k n (ws) (lv) (tgt) (st)) (kf : y ≤ x → Vx p l e R s m args below meth c g A nL Q k n (ws) (lv) (pc + 3) (st)) : Vx p l e R s m args below meth c g A nL Q k n (ws) (lv) (pc) (.int (iI y) :: .int (iI x) :: st) := fun H locs ls hP hD hS hL => lv_icmp_lt C.1 C.2.1 hd ht (v_cmpT (iI_lt hx hy) fun z => kt z H locs ls hP hD hS hL) (v_cmpF (iI_lt hx hy) (fun z => Int.not_lt.mp z) fun z => kf z H locs ls hP hD hS hL)
theorem v_if_lt (C : Cx p s m args c g A cc nL Ts own) {x : Int} {off : Int} (tgt : Nat) (hd : decode cc pc = .ok (.ifCond .lt off, 3)) (ht : (pc : Int) + off = (tgt : Int)) (hx : b31 x) (kt : x < 0 → Vx p l e R s m args below meth c g A nL Q k n (ws) (lv) (tgt) (st)) (kf : 0 ≤ x → Vx p l e R s m args below meth c g A nL Q k n (ws) (lv) (pc + 3) (st)) : Vx p l e R s m args below meth c g A nL Q k n (ws) (lv) (pc) (.int (iI x) :: st) := fun H locs ls hP hD hS hL => lv_if_lt C.1 C.2.1 hd ht (v_cmpT (iI_lt hx b31_0) fun z => kt z H locs ls hP hD hS hL) (v_cmpF (iI_lt hx b31_0) (fun z => Int.not_lt.mp z) fun z => kf z H locs ls hP hD hS hL)
theorem v_icmp_ge (C : Cx p s m args c g A cc nL Ts own) {x y : Int} {off : Int} (tgt : Nat) (hd : decode cc pc = .ok (.if_icmp .ge off, 3)) (ht : (pc : Int) + off = (tgt : Int)) (hx : b31 x) (hy : b31 y) (kt : y ≤ x → Vx p l e R s m args below meth c g A nL Q k n (ws) (lv) (tgt) (st)) (kf : x < y → Vx p l e R s m args below meth c g A nL Q k n (ws) (lv) (pc + 3) (st)) : Vx p l e R s m args below meth c g A nL Q k n (ws) (lv) (pc) (.int (iI y) :: .int (iI x) :: st) := fun H locs ls hP hD hS hL => lv_icmp_ge C.1 C.2.1 hd ht (v_cmpT (iI_le hy hx) fun z => kt z H locs ls hP hD hS hL) (v_cmpF (iI_le hy hx) (fun z => Int.not_le.mp z) fun z => kf z H locs ls hP hD hS hL)
theorem v_if_ge (C : Cx p s m args c g A cc nL Ts own) {x : Int} {off : Int} (tgt : Nat) (hd : decode cc pc = .ok (.ifCond .ge off, 3)) (ht : (pc : Int) + off = (tgt : Int)) (hx : b31 x) (kt : 0 ≤ x → Vx p l e R s m args below meth c g A nL Q k n (ws) (lv) (tgt) (st)) (kf : x < 0 → Vx p l e R s m args below meth c g A nL Q k n (ws) (lv) (pc + 3) (st)) : Vx p l e R s m args below meth c g A nL Q k n (ws) (lv) (pc) (.int (iI x) :: st) := fun H locs ls hP hD hS hL => lv_if_ge C.1 C.2.1 hd ht (v_cmpT (iI_le b31_0 hx) fun z => kt z H locs ls hP hD hS hL) (v_cmpF (iI_le b31_0 hx) (fun z => Int.not_le.mp z) fun z => kf z H locs ls hP hD hS hL)
theorem v_icmp_gt (C : Cx p s m args c g A cc nL Ts own) {x y : Int} {off : Int} (tgt : Nat) (hd : decode cc pc = .ok (.if_icmp .gt off, 3)) (ht : (pc : Int) + off = (tgt : Int)) (hx : b31 x) (hy : b31 y) (kt : y < x → Vx p l e R s m args below meth c g A nL Q k n (ws) (lv) (tgt) (st)) (kf : x ≤ y → Vx p l e R s m args below meth c g A nL Q k n (ws) (lv) (pc + 3) (st)) : Vx p l e R s m args below meth c g A nL Q k n (ws) (lv) (pc) (.int (iI y) :: .int (iI x) :: st) := fun H locs ls hP hD hS hL => lv_icmp_gt C.1 C.2.1 hd ht (v_cmpT (iI_lt hy hx) fun z => kt z H locs ls hP hD hS hL) (v_cmpF (iI_lt hy hx) (fun z => Int.not_lt.mp z) fun z => kf z H locs ls hP hD hS hL)
theorem v_if_gt (C : Cx p s m args c g A cc nL Ts own) {x : Int} {off : Int} (tgt : Nat) (hd : decode cc pc = .ok (.ifCond .gt off, 3)) (ht : (pc : Int) + off = (tgt : Int)) (hx : b31 x) (kt : 0 < x → Vx p l e R s m args below meth c g A nL Q k n (ws) (lv) (tgt) (st)) (kf : x ≤ 0 → Vx p l e R s m args below meth c g A nL Q k n (ws) (lv) (pc + 3) (st)) : Vx p l e R s m args below meth c g A nL Q k n (ws) (lv) (pc) (.int (iI x) :: st) := fun H locs ls hP hD hS hL => lv_if_gt C.1 C.2.1 hd ht (v_cmpT (iI_lt b31_0 hx) fun z => kt z H locs ls hP hD hS hL) (v_cmpF (iI_lt b31_0 hx) (fun z => Int.not_lt.mp z) fun z => kf z H locs ls hP hD hS hL)
theorem v_icmp_le (C : Cx p s m args c g A cc nL Ts own) {x y : Int} {off : Int} (tgt : Nat) (hd : decode cc pc = .ok (.if_icmp .le off, 3)) (ht : (pc : Int) + off = (tgt : Int)) (hx : b31 x) (hy : b31 y) (kt : x ≤ y → Vx p l e R s m args below meth c g A nL Q k n (ws) (lv) (tgt) (st)) (kf : y < x → Vx p l e R s m args below meth c g A nL Q k n (ws) (lv) (pc + 3) (st)) : Vx p l e R s m args below meth c g A nL Q k n (ws) (lv) (pc) (.int (iI y) :: .int (iI x) :: st) := fun H locs ls hP hD hS hL => lv_icmp_le C.1 C.2.1 hd ht (v_cmpT (iI_le hx hy) fun z => kt z H locs ls hP hD hS hL) (v_cmpF (iI_le hx hy) (fun z => Int.not_le.mp z) fun z => kf z H locs ls hP hD hS hL)
theorem v_if_le (C : Cx p s m args c g A cc nL Ts own) {x : Int} {off : Int} (tgt : Nat) (hd : decode cc pc = .ok (.ifCond .le off, 3)) (ht : (pc : Int) + off = (tgt : Int)) (hx : b31 x) (kt : x ≤ 0 → Vx p l e R s m args below meth c g A nL Q k n (ws) (lv) (tgt) (st)) (kf : 0 < x → Vx p l e R s m args below meth c g A nL Q k n (ws) (lv) (pc + 3) (st)) : Vx p l e R s m args below meth c g A nL Q k n (ws) (lv) (pc) (.int (iI x) :: st) := fun H locs ls hP hD hS hL => lv_if_le C.1 C.2.1 hd ht (v_cmpT (iI_le hx b31_0) fun z => kt z H locs ls hP hD hS hL) (v_cmpF (iI_le hx b31_0) (fun z => Int.not_le.mp z) fun z => kf z H locs ls hP hD hS hL)
theorem v_ifR_eq (C : Cx p s m args c g A cc nL Ts own) {x : Int32} {off : Int} (tgt : Nat) (hd : decode cc pc = .ok (.ifCond .eq off, 3)) (ht : (pc : Int) + off = (tgt : Int)) (kt : x = 0 → Vx p l e R s m args below meth c g A nL Q k n (ws) (lv) (tgt) (st)) (kf : ¬ x = 0 → Vx p l e R s m args below meth c g A nL Q k n (ws) (lv) (pc + 3) (st)) : Vx p l e R s m args below meth c g A nL Q k n (ws) (lv) (pc) (.int x :: st) := fun H locs ls hP hD hS hL => lv_if_eq C.1 C.2.1 hd ht (fun z => kt z H locs ls hP hD hS hL) (fun z => kf z H locs ls hP hD hS hL)
theorem v_ifR_ne (C : Cx p s m args c g A cc nL Ts own) {x : Int32} {off : Int} (tgt : Nat) (hd : decode cc pc = .ok (.ifCond .ne off, 3)) (ht : (pc : Int) + off = (tgt : Int)) (kt : ¬ x = 0 → Vx p l e R s m args below meth c g A nL Q k n (ws) (lv) (tgt) (st)) (kf : x = 0 → Vx p l e R s m args below meth c g A nL Q k n (ws) (lv) (pc + 3) (st)) : Vx p l e R s m args below meth c g A nL Q k n (ws) (lv) (pc) (.int x :: st) := fun H locs ls hP hD hS hL => lv_if_ne C.1 C.2.1 hd ht (fun z => kt z H locs ls hP hD hS hL) (fun z => kf z H locs ls hP hD hS hL)
def bZ (b : Bool) : Int := cond b 1 0
theorem bZ_0 {b : Bool} : iI (bZ b) = 0 ↔ b = false := by cases b <;> decide
theorem bZ_n0 {b : Bool} : ¬ iI (bZ b) = 0 ↔ b = true := by cases b <;> decide
theorem bZ_31 (b : Bool) : b31 (bZ b) := by cases b <;> exact ⟨by decide, by decide⟩
theorem v_ifz_eq (C : Cx p s m args c g A cc nL Ts own) {b : Bool} {off : Int} (tgt : Nat) (hd : decode cc pc = .ok (.ifCond .eq off, 3)) (ht : (pc : Int) + off = (tgt : Int)) (kt : b = false → Vx p l e R s m args below meth c g A nL Q k n (ws) (lv) (tgt) (st)) (kf : b = true → Vx p l e R s m args below meth c g A nL Q k n (ws) (lv) (pc + 3) (st)) : Vx p l e R s m args below meth c g A nL Q k n (ws) (lv) (pc) (.int (iI (bZ b)) :: st) := fun H locs ls hP hD hS hL => lv_if_eq C.1 C.2.1 hd ht (fun z => kt (bZ_0.mp z) H locs ls hP hD hS hL) (fun z => kf (bZ_n0.mp z) H locs ls hP hD hS hL)
theorem v_ifz_ne (C : Cx p s m args c g A cc nL Ts own) {b : Bool} {off : Int} (tgt : Nat) (hd : decode cc pc = .ok (.ifCond .ne off, 3)) (ht : (pc : Int) + off = (tgt : Int)) (kt : b = true → Vx p l e R s m args below meth c g A nL Q k n (ws) (lv) (tgt) (st)) (kf : b = false → Vx p l e R s m args below meth c g A nL Q k n (ws) (lv) (pc + 3) (st)) : Vx p l e R s m args below meth c g A nL Q k n (ws) (lv) (pc) (.int (iI (bZ b)) :: st) := fun H locs ls hP hD hS hL => lv_if_ne C.1 C.2.1 hd ht (fun z => kt (bZ_n0.mp z) H locs ls hP hD hS hL) (fun z => kf (bZ_0.mp z) H locs ls hP hD hS hL)
theorem lg_cmp_0 {x y : Int64} : lg_cmp x y = 0 ↔ x = y := by
  unfold lg_cmp
  by_cases h1 : x > y
  · rw [if_pos h1]
    exact ⟨fun h => absurd h (by decide), fun h => by subst h; exact absurd h1 (Int64.lt_irrefl)⟩
  · rw [if_neg h1]
    by_cases h2 : x = y
    · rw [if_pos h2]
      exact ⟨fun _ => h2, fun _ => rfl⟩
    · rw [if_neg h2]
      exact ⟨fun h => absurd h (by decide), fun h => absurd h h2⟩
theorem v_ifl_eq (C : Cx p s m args c g A cc nL Ts own) {x y : Int64} {off : Int} (tgt : Nat) (hd : decode cc pc = .ok (.ifCond .eq off, 3)) (ht : (pc : Int) + off = (tgt : Int)) (kt : x = y → Vx p l e R s m args below meth c g A nL Q k n (ws) (lv) (tgt) (st)) (kf : ¬ x = y → Vx p l e R s m args below meth c g A nL Q k n (ws) (lv) (pc + 3) (st)) : Vx p l e R s m args below meth c g A nL Q k n (ws) (lv) (pc) (.int (lg_cmp x y) :: st) := fun H locs ls hP hD hS hL => lv_if_eq C.1 C.2.1 hd ht (fun z => kt (lg_cmp_0.mp z) H locs ls hP hD hS hL) (fun z => kf (fun y => z (lg_cmp_0.mpr y)) H locs ls hP hD hS hL)
theorem v_ifl_ne (C : Cx p s m args c g A cc nL Ts own) {x y : Int64} {off : Int} (tgt : Nat) (hd : decode cc pc = .ok (.ifCond .ne off, 3)) (ht : (pc : Int) + off = (tgt : Int)) (kt : ¬ x = y → Vx p l e R s m args below meth c g A nL Q k n (ws) (lv) (tgt) (st)) (kf : x = y → Vx p l e R s m args below meth c g A nL Q k n (ws) (lv) (pc + 3) (st)) : Vx p l e R s m args below meth c g A nL Q k n (ws) (lv) (pc) (.int (lg_cmp x y) :: st) := fun H locs ls hP hD hS hL => lv_if_ne C.1 C.2.1 hd ht (fun z => kt (fun y => z (lg_cmp_0.mpr y)) H locs ls hP hD hS hL) (fun z => kf (lg_cmp_0.mp z) H locs ls hP hD hS hL)
/-! state: fewer locals; the same world by another name -/
theorem v_lv {lv' : List (Nat × Value)} (ks : List Nat) (hl : lv_pick lv ks = lv') (kk : Vx p l e R s m args below meth c g A nL Q k n ws lv' pc st) : Vx p l e R s m args below meth c g A nL Q k n ws lv pc st := fun H locs ls hP hD hS hL => kk H locs ls hP hD hS (lv_sub hL ks hl)
theorem v_widen {k' n' : Nat} (h1 : k ≤ k') (h2 : n ≤ n') (kk : Vx p l e R s m args below meth c g A nL Q k' n' ws lv pc st) : Vx p l e R s m args below meth c g A nL Q k n ws lv pc st := fun H locs ls hP hD hS hL => W.widen h1 h2 (kk H locs ls hP hD hS hL)
theorem v_topi {x : Int32} (kk : ∀ y : Int32, y = x → Vx p l e R s m args below meth c g A nL Q k n ws lv pc (.int y :: st)) : Vx p l e R s m args below meth c g A nL Q k n ws lv pc (.int x :: st) := kk x rfl
/-! arrays -/
theorem v_iald (C : Cx p s m args c g A cc nL Ts own) (q0 : Nat) {a N : Nat} {f : Nat → Int} {z : Int} (i : Nat) (ha : ws[q0]? = some (cI g a N f)) (hz : z = (i : Int)) (hi : i < N) (hN : N < 2147483648) (hd : decode cc pc = .ok (.iaload, 1)) (kk : Vx p l e R s m args below meth c g A nL Q k n ws lv (pc + 1) (.int (iI (f i)) :: st)) : Vx p l e R s m args below meth c g A nL Q k n ws lv pc (.int (iI z) :: .ref a :: st) := fun H locs ls hP hD hS hL => va_iald (D := g.1) C.1 C.2.1 C.2.2.2.2.2.1.1 hP q0 1 ha rfl (iI_in hz hi hN) hd (by rw [iI_cl hz (by omega)]; exact kk H locs ls hP hD hS hL)
theorem v_cald (C : Cx p s m args c g A cc nL Ts own) (q0 : Nat) {a N : Nat} {f : Nat → Int} {z : Int} (i : Nat) (ha : ws[q0]? = some (cC g a N f)) (hz : z = (i : Int)) (hi : i < N) (hN : N < 2147483648) (hd : decode cc pc = .ok (.caload, 1)) (kk : Vx p l e R s m args below meth c g A nL Q k n ws lv (pc + 1) (.int (iI (f i)) :: st)) : Vx p l e R s m args below meth c g A nL Q k n ws lv pc (.int (iI z) :: .ref a :: st) := fun H locs ls hP hD hS hL => va_cald (D := g.1) C.1 C.2.1 C.2.2.2.2.2.1.1 hP q0 0 ha rfl (iI_in hz hi hN) hd (by rw [iI_cl hz (by omega)]; exact kk H locs ls hP hD hS hL)
theorem v_lald (C : Cx p s m args c g A cc nL Ts own) (q0 : Nat) {a N : Nat} {f : Nat → Int64} {z : Int} (i : Nat) (ha : ws[q0]? = some (cL g a N f)) (hz : z = (i : Int)) (hi : i < N) (hN : N < 2147483648) (hd : decode cc pc = .ok (.laload, 1)) (kk : Vx p l e R s m args below meth c g A nL Q k n ws lv (pc + 1) (.long (f i) :: st)) : Vx p l e R s m args below meth c g A nL Q k n ws lv pc (.int (iI z) :: .ref a :: st) := fun H locs ls hP hD hS hL => va_lald (D := g.1) C.1 C.2.1 C.2.2.2.2.2.1.1 hP q0 2 ha rfl (iI_in hz hi hN) hd (by rw [iI_cl hz (by omega)]; exact kk H locs ls hP hD hS hL)
theorem v_dald (C : Cx p s m args c g A cc nL Ts own) (q0 : Nat) {a N : Nat} {f : Nat → UInt64} {z : Int} (i : Nat) (ha : ws[q0]? = some (cD g a N f)) (hz : z = (i : Int)) (hi : i < N) (hN : N < 2147483648) (hd : decode cc pc = .ok (.daload, 1)) (kk : Vx p l e R s m args below meth c g A nL Q k n ws lv (pc + 1) (.double (f i) :: st)) : Vx p l e R s m args below meth c g A nL Q k n ws lv pc (.int (iI z) :: .ref a :: st) := fun H locs ls hP hD hS hL => va_dald (D := g.1) C.1 C.2.1 C.2.2.2.2.2.1.1 hP q0 3 ha rfl (iI_in hz hi hN) hd (by rw [iI_cl hz (by omega)]; exact kk H locs ls hP hD hS hL)
theorem v_iast (C : Cx p s m args c g A cc nL Ts own) (q0 : Nat) {a N : Nat} {f : Nat → Int} {z x : Int} (i : Nat) (ws' : va_W) (ha : ws[q0]? = some (cI g a N f)) (hz : z = (i : Int)) (hi : i < N) (hN : N < 2147483648) (hd : decode cc pc = .ok (.iastore, 1)) (hw : ws.set q0 (cI g a N (updZ f i x)) = ws') (kk : Vx p l e R s m args below meth c g A nL Q k n ws' lv (pc + 1) st) : Vx p l e R s m args below meth c g A nL Q k n ws lv pc (.int (iI x) :: .int (iI z) :: .ref a :: st) := fun H locs ls hP hD hS hL => va_iast (D := g.1) C.1 C.2.1 C.2.2.2.2.2.1.1 hP hD hS q0 1 ha rfl (iI_in hz hi hN) hd (fun H1 locs1 hP1 hD1 hS1 => by
  rw [iI_cl hz (by omega), updZ_iI] at hP1 hD1
  subst hw
  exact kk H1 locs1 ls hP1 hD1 hS1 hL)
theorem v_cast (C : Cx p s m args c g A cc nL Ts own) (q0 : Nat) {a N : Nat} {f : Nat → Int} {z x : Int} (i : Nat) (ws' : va_W) (ha : ws[q0]? = some (cC g a N f)) (hz : z = (i : Int)) (hi : i < N) (hN : N < 2147483648) (hx : vp_nar .char (iI x) = iI x) (hd : decode cc pc = .ok (.castore, 1)) (hw : ws.set q0 (cC g a N (updZ f i x)) = ws') (kk : Vx p l e R s m args below meth c g A nL Q k n ws' lv (pc + 1) st) : Vx p l e R s m args below meth c g A nL Q k n ws lv pc (.int (iI x) :: .int (iI z) :: .ref a :: st) := fun H locs ls hP hD hS hL => va_cast (D := g.1) C.1 C.2.1 C.2.2.2.2.2.1.1 hP hD hS q0 0 ha rfl (iI_in hz hi hN) hd (fun H1 locs1 hP1 hD1 hS1 => by
  rw [iI_cl hz (by omega), hx, updZ_iI] at hP1 hD1
  subst hw
  exact kk H1 locs1 ls hP1 hD1 hS1 hL)
theorem v_last (C : Cx p s m args c g A cc nL Ts own) (q0 : Nat) {a N : Nat} {f : Nat → Int64} {z : Int} {x : Int64} (i : Nat) (f' : Nat → Int64) (ws' : va_W) (ha : ws[q0]? = some (cL g a N f)) (hz : z = (i : Int)) (hi : i < N) (hN : N < 2147483648) (hd : decode cc pc = .ok (.lastore, 1)) (hf : vp_updL f i x = f') (hw : ws.set q0 (cL g a N f') = ws') (kk : Vx p l e R s m args below meth c g A nL Q k n ws' lv (pc + 1) st) : Vx p l e R s m args below meth c g A nL Q k n ws lv pc (.long x :: .int (iI z) :: .ref a :: st) := fun H locs ls hP hD hS hL => va_last (D := g.1) C.1 C.2.1 C.2.2.2.2.2.1.1 hP hD hS q0 2 ha rfl (iI_in hz hi hN) hd (fun H1 locs1 hP1 hD1 hS1 => by
  rw [iI_cl hz (by omega), hf] at hP1 hD1
  subst hw
  exact kk H1 locs1 ls hP1 hD1 hS1 hL)
theorem v_dast (C : Cx p s m args c g A cc nL Ts own) (q0 : Nat) {a N : Nat} {f : Nat → UInt64} {z : Int} {x : UInt64} (i : Nat) (ws' : va_W) (ha : ws[q0]? = some (cD g a N f)) (hz : z = (i : Int)) (hi : i < N) (hN : N < 2147483648) (hd : decode cc pc = .ok (.dastore, 1)) (hw : ws.set q0 (cD g a N (vf_upd f i x)) = ws') (kk : Vx p l e R s m args below meth c g A nL Q k n ws' lv (pc + 1) st) : Vx p l e R s m args below meth c g A nL Q k n ws lv pc (.double x :: .int (iI z) :: .ref a :: st) := fun H locs ls hP hD hS hL => va_dast (D := g.1) C.1 C.2.1 C.2.2.2.2.2.1.1 hP hD hS q0 3 ha rfl (iI_in hz hi hN) hd (fun H1 locs1 hP1 hD1 hS1 => by
  rw [iI_cl hz (by omega)] at hP1 hD1
  subst hw
  exact kk H1 locs1 ls hP1 hD1 hS1 hL)
theorem v_alen (C : Cx p s m args c g A cc nL Ts own) (q0 : Nat) {a N : Nat} {f : Nat → Int} (ha : ws[q0]? = some (cI g a N f)) (hd : decode cc pc = .ok (.arraylength, 1)) (kk : Vx p l e R s m args below meth c g A nL Q k n ws lv (pc + 1) (.int (iI (N : Int)) :: st)) : Vx p l e R s m args below meth c g A nL Q k n ws lv pc (.ref a :: st) := fun H locs ls hP hD hS hL => va_alen (D := g.1) C.1 C.2.1 C.2.2.2.2.2.1.1 hP q0 1 ha rfl (iI_nI N).symm hd (kk H locs ls hP hD hS hL)
/-! fields -/
theorem v_get (C : Cx p s m args c g A cc nL Ts own) (q0 : Nat) {a ci kf N index : Nat} {CN ref : String} {T : u_T} {fs : List Value} {v : Value} (he : ws[q0]? = some (cO a ci fs)) (hc : vwCl[ci]? = some (CN, T, N)) (hk : kf < N) (hin : ∀ w ∈ u_ws CN T N, w ∈ Ts) (hlink : Cond.fieldLink own index ref (T kf).2.1 (T kf).2.2.1 ∈ Ts) (hsame : (T kf).1 = ref) (hv : fs[kf]? = some v) (hd : decode cc pc = .ok (.getfield index, 3)) (kk : Vx p l e R s m args below meth c g A nL Q k n ws lv (pc + 3) (v :: st)) : Vx p l e R s m args below meth c g A nL Q k n ws lv pc (.ref a :: st) := fun H locs ls hP hD hS hL => va_get (D := g.1) C.1 C.2.1 C.2.2.2.2.1 hin C.2.2.2.1 C.2.2.2.2.2.1.1 hP q0 he hc kf hk (C.2.2.2.2.1 _ hlink) (fun x hx => hsame ▸ hx) hv hd (kk H locs ls hP hD hS hL)
theorem v_put (C : Cx p s m args c g A cc nL Ts own) (q0 : Nat) {a ci kf N index : Nat} {CN ref : String} {T : u_T} {fs : List Value} {v : Value} {ty0 : Nat → FieldType} (ws' : va_W) (he : ws[q0]? = some (cO a ci fs)) (hc : vwCl[ci]? = some (CN, T, N)) (hk : kf < N) (hin : ∀ w ∈ u_ws CN T N, w ∈ Ts) (hlink : Cond.fieldLink own index ref (T kf).2.1 (T kf).2.2.1 ∈ Ts) (hsame : (T kf).1 = ref) (hty : ∀ k, k < N → parseFieldDescriptor (T k).2.2.1 = some (ty0 k)) (hnm : ∀ a, a < N → ∀ b, b < N → a ≠ b → (T a).2.1 ≠ (T b).2.1) (hfin : (T kf).2.2.2 = false) (hnr : narrow (ty0 kf) v = v) (hft : fits (ty0 kf) v = true) (hl : kf < fs.length) (hd : decode cc pc = .ok (.putfield index, 3)) (hw : ws.set q0 (cO a ci (fs.set kf v)) = ws') (kk : Vx p l e R s m args below meth c g A nL Q k n ws' lv (pc + 3) st) : Vx p l e R s m args below meth c g A nL Q k n ws lv pc (v :: .ref a :: st) := fun H locs ls hP hD hS hL => va_put (D := g.1) C.1 C.2.1 C.2.2.2.2.1 hin ty0 hty hnm C.2.2.2.1 C.2.2.2.2.2.1.1 hP hD hS q0 he hc kf hk (C.2.2.2.2.1 _ hlink) (fun x hx => hsame ▸ hx) hfin (hty kf hk) hnr hft hl hd (fun H1 locs1 hP1 hD1 hS1 => by
  subst hw
  exact kk H1 locs1 ls hP1 hD1 hS1 hL)
theorem v_putF (C : Cx p s m args c g A cc nL Ts own) (q0 : Nat) {a ci kf N index : Nat} {CN ref : String} {T : u_T} {fs : List Value} {v : Value} {ty0 : Nat → FieldType} (ws' : va_W) (he : ws[q0]? = some (cO a ci fs)) (hc : vwCl[ci]? = some (CN, T, N)) (hk : kf < N) (hin : ∀ w ∈ u_ws CN T N, w ∈ Ts) (hlink : Cond.fieldLink own index ref (T kf).2.1 (T kf).2.2.1 ∈ Ts) (hsame : (T kf).1 = ref) (hty : ∀ k, k < N → parseFieldDescriptor (T k).2.2.1 = some (ty0 k)) (hnm : ∀ a, a < N → ∀ b, b < N → a ≠ b → (T a).2.1 ≠ (T b).2.1) (hfin : (T kf).2.2.2 = true) (hin2 : meth.name = "<init>") (hdecl : (T kf).1 = own) (hnr : narrow (ty0 kf) v = v) (hft : fits (ty0 kf) v = true) (hl : kf < fs.length) (hd : decode cc pc = .ok (.putfield index, 3)) (hw : ws.set q0 (cO a ci (fs.set kf v)) = ws') (kk : Vx p l e R s m args below meth c g A nL Q k n ws' lv (pc + 3) st) : Vx p l e R s m args below meth c g A nL Q k n ws lv pc (v :: .ref a :: st) := fun H locs ls hP hD hS hL => va_putF (D := g.1) C.1 C.2.1 C.2.2.2.2.1 hin ty0 hty hnm C.2.2.2.1 C.2.2.2.2.2.1.1 hP hD hS q0 he hc kf hk (C.2.2.2.2.1 _ hlink) (fun x hx => hsame ▸ hx) hfin hin2 hdecl (hty kf hk) hnr hft hl hd (fun H1 locs1 hP1 hD1 hS1 => by
  subst hw
  exact kk H1 locs1 ls hP1 hD1 hS1 hL)
end VV
/-! contracts -/
def mPc (g : vG) (As : List Value) (w : va_W) (sz : Nat) : Array Value → State → Prop := va_Pc As (fun U => U.heap.size = sz ∧ va_P g.1 vwCl w U.heap ∧ v_K g U ∧ va_D (fun _ => True) w)
def mB {S : Type} (g : vG) (w' : S → va_W) (A : Nat → Prop) : S → State → Prop := fun u t => va_P g.1 vwCl (w' u) t.heap ∧ va_D A (w' u)
theorem mPc_blind (g : vG) (As : List Value) (w : va_W) (sz : Nat) : FrameBlind (mPc g As w sz) := fun a U gg mk h => ⟨h.1, h.2.1, h.2.2.1, h.2.2.2.1.same rfl, h.2.2.2.2⟩
/-! worlds in segments: a call takes some, and leaves the others -/
def pick (segs : List va_W) (is : List Nat) : va_W := (is.filterMap (fun i => segs[i]?)).flatten
theorem flat_perm {l1 l2 : List va_W} (h : l1.Perm l2) : l1.flatten.Perm l2.flatten := by
  induction h with
  | nil => exact List.Perm.refl _
  | cons x _ ih =>
    rw [List.flatten_cons, List.flatten_cons]
    exact List.Perm.append_left x ih
  | swap x y l =>
    rw [List.flatten_cons, List.flatten_cons, List.flatten_cons, List.flatten_cons, ← List.append_assoc, ← List.append_assoc]
    exact List.Perm.append_right _ List.perm_append_comm
  | trans _ _ ih1 ih2 => exact ih1.trans ih2
theorem range_pick (segs : List va_W) : (List.range segs.length).filterMap (fun i => segs[i]?) = segs := by
  induction segs with
  | nil => rfl
  | cons a l ih =>
    rw [List.length_cons, List.range_succ_eq_map, List.filterMap_cons, List.filterMap_map]
    show a :: _ = a :: l
    exact congrArg (a :: ·) ih
theorem pick_perm {segs : List va_W} {isC isR : List Nat} (h : (isC ++ isR).isPerm (List.range segs.length) = true) : segs.flatten.Perm (pick segs isC ++ pick segs isR) := by
  have h1 := (List.isPerm_iff.mp h).filterMap (fun i => segs[i]?)
  rw [range_pick, List.filterMap_append] at h1
  have h2 := flat_perm h1
  rw [List.flatten_append] at h2
  exact h2.symm
theorem va_P_iff {D : va_G} {cl : List vw_C} {ws : va_W} {H : Heap} : va_P D cl ws H ↔ ∀ q ∈ ws, va_at D cl q H := by
  constructor
  · intro h q hq
    obtain ⟨k, hk⟩ := List.getElem?_of_mem hq
    exact h k q hk
  · exact fun h k q hk => h q (List.mem_of_getElem? hk)
theorem va_P_perm {D : va_G} {cl : List vw_C} {w1 w2 : va_W} {H : Heap} (hp : w1.Perm w2) (h : va_P D cl w1 H) : va_P D cl w2 H := va_P_iff.mpr fun q hq => va_P_iff.mp h q (hp.mem_iff.mpr hq)
theorem va_D_iff {A : Nat → Prop} {ws : va_W} : va_D A ws ↔ (ws.map Prod.fst).Nodup ∧ ∀ q ∈ ws, A q.1 := by
  constructor
  · intro h
    refine ⟨?_, fun q hq => ?_⟩
    · rw [List.Nodup, List.pairwise_iff_getElem]
      intro i j hi hj hij e
      rw [List.length_map] at hi hj
      rw [List.getElem_map, List.getElem_map] at e
      have := h.1 i j _ _ (List.getElem?_eq_getElem hi) (List.getElem?_eq_getElem hj) e
      omega
    · obtain ⟨k, hk⟩ := List.getElem?_of_mem hq
      exact h.2 k q hk
  · intro h
    refine ⟨fun i j p q hi hj e => ?_, fun k q hk => h.2 q (List.mem_of_getElem? hk)⟩
    obtain ⟨hi1, hi2⟩ := List.getElem?_eq_some_iff.mp hi
    obtain ⟨hj1, hj2⟩ := List.getElem?_eq_some_iff.mp hj
    have hn := h.1
    rw [List.Nodup, List.pairwise_iff_getElem] at hn
    rcases Nat.lt_trichotomy i j with q1 | q1 | q1
    · exact absurd (by rw [List.getElem_map, List.getElem_map, hi2, hj2]; exact e) (hn i j (by rw [List.length_map]; exact hi1) (by rw [List.length_map]; exact hj1) q1)
    · exact q1
    · exact absurd (by rw [List.getElem_map, List.getElem_map, hi2, hj2]; exact e.symm) (hn j i (by rw [List.length_map]; exact hj1) (by rw [List.length_map]; exact hi1) q1)
theorem va_D_perm {A : Nat → Prop} {w1 w2 : va_W} (hp : w1.Perm w2) (h : va_D A w1) : va_D A w2 := by
  obtain ⟨h1, h2⟩ := va_D_iff.mp h
  exact va_D_iff.mpr ⟨(hp.map Prod.fst).nodup_iff.mp h1, fun q hq => h2 q (hp.mem_iff.mpr hq)⟩
theorem va_P_left {D : va_G} {cl : List vw_C} {w1 w2 : va_W} {H : Heap} (h : va_P D cl (w1 ++ w2) H) : va_P D cl w1 H := va_P_iff.mpr fun q hq => va_P_iff.mp h q (List.mem_append_left _ hq)
theorem va_D_left {A : Nat → Prop} {w1 w2 : va_W} (h : va_D A (w1 ++ w2)) : va_D A w1 := by
  obtain ⟨h1, h2⟩ := va_D_iff.mp h
  rw [List.map_append] at h1
  exact va_D_iff.mpr ⟨(List.nodup_append.mp h1).1, fun q hq => h2 q (List.mem_append_left _ hq)⟩
theorem va_free_left {A0 : Nat → Prop} {w1 w2 : va_W} {H0 H : Heap} {locs : List Loc} (hD : va_D A0 (w1 ++ w2)) (hS : va_S A0 H0 H locs) (hA : ∀ q, H0.size ≤ q → A0 q) : ∀ q, va_A w1 H.size q → A0 q := by
  intro q h
  rcases h with ⟨k, e, h⟩ | h
  · exact (va_D_iff.mp hD).2 (q, e) (List.mem_append_left _ (List.mem_of_getElem? h))
  · exact hA q (Nat.le_trans hS.1 h)
theorem join_left {A0 : Nat → Prop} {D : va_G} {cl : List vw_C} {wc wr w1 : va_W} {H H1 : Heap} (hP : va_P D cl (wc ++ wr) H) (hD : va_D A0 (wc ++ wr)) (hk : ∀ q : Nat, q < H.size → ¬ va_A wc H.size q → H1[q]? = H[q]?) (hF : ∀ q, va_A wc H.size q → A0 q) (hP1 : va_P D cl w1 H1) (hD1 : va_D (va_A wc H.size) w1) : va_P D cl (w1 ++ wr) H1 ∧ va_D A0 (w1 ++ wr) := by
  obtain ⟨d1, d2⟩ := va_D_iff.mp hD
  obtain ⟨e1, e2⟩ := va_D_iff.mp hD1
  rw [List.map_append] at d1
  obtain ⟨n1, n2, n3⟩ := List.nodup_append.mp d1
  have apart : ∀ q ∈ wr, q.1 < H.size ∧ ¬ va_A wc H.size q.1 := by
    intro q hq
    have hl := (va_P_iff.mp hP q (List.mem_append_right _ hq)).lt
    refine ⟨hl, fun h => ?_⟩
    rcases h with ⟨k2, e, h⟩ | h
    · exact n3 q.1 (List.mem_map.mpr ⟨(q.1, e), List.mem_of_getElem? h, rfl⟩) q.1 (List.mem_map.mpr ⟨q, hq, rfl⟩) rfl
    · omega
  constructor
  · refine va_P_iff.mpr fun q hq => ?_
    rcases List.mem_append.mp hq with h | h
    · exact va_P_iff.mp hP1 q h
    · obtain ⟨g1, g2⟩ := apart q h
      exact (va_P_iff.mp hP q (List.mem_append_right _ h)).kept (hk q.1 g1 g2)
  · refine va_D_iff.mpr ⟨?_, fun q hq => ?_⟩
    · rw [List.map_append]
      refine List.nodup_append.mpr ⟨e1, n2, fun a ha b hb hab => ?_⟩
      obtain ⟨x, hx, rfl⟩ := List.mem_map.mp ha
      obtain ⟨y, hy, rfl⟩ := List.mem_map.mp hb
      exact (apart y hy).2 (hab ▸ e2 x hx)
    · rcases List.mem_append.mp hq with h | h
      · exact hF q.1 (e2 q h)
      · exact d2 q (List.mem_append_right _ h)
def mI {S : Type} (l : Launch) (g : vG) (y : MethodName) (wy : List Cond) (rm : Room) (As : List Value) (w : va_W) (w' : S → va_W) (post : Int32 → S → Prop) (mc ms : Nat) : Prop := ∀ sz : Nat, Met l y wy rm (mPc g As w sz) (va_Qi post (mB g w' (va_A w sz)) (va_A w sz)) mc ms (va_A w sz)
def mL {S : Type} (l : Launch) (g : vG) (y : MethodName) (wy : List Cond) (rm : Room) (As : List Value) (w : va_W) (w' : S → va_W) (post : Int64 → S → Prop) (mc ms : Nat) : Prop := ∀ sz : Nat, Met l y wy rm (mPc g As w sz) (va_Ql post (mB g w' (va_A w sz)) (va_A w sz)) mc ms (va_A w sz)
def mF {S : Type} (l : Launch) (g : vG) (y : MethodName) (wy : List Cond) (rm : Room) (As : List Value) (w : va_W) (w' : S → va_W) (post : UInt32 → S → Prop) (mc ms : Nat) : Prop := ∀ sz : Nat, Met l y wy rm (mPc g As w sz) (va_Qf post (mB g w' (va_A w sz)) (va_A w sz)) mc ms (va_A w sz)
def mV {S : Type} (l : Launch) (g : vG) (y : MethodName) (wy : List Cond) (rm : Room) (As : List Value) (w : va_W) (w' : S → va_W) (post : S → Prop) (mc ms : Nat) : Prop := ∀ sz : Nat, Met l y wy rm (mPc g As w sz) (va_Qv post (mB g w' (va_A w sz)) (va_A w sz)) mc ms (va_A w sz)
theorem mI_of {S : Type} {l : Launch} {g : vG} {y : MethodName} {wy wy' : List Cond} {rm : Room} {As : List Value} {w : va_W} {w' : S → va_W} {post : Int32 → S → Prop} {mc ms : Nat} {cc : ByteArray} {maxL : Nat} {ret : Option FieldType} {own : String} (hy : plainName y.cls = true) (hw : wy = Cond.code y cc maxL ret :: wy') (ho : y.cls = own) (hsz : (lg_sl As).length ≤ maxL)
    (body : ∀ (p : Program) (e : Env) (s : State) (m : MethodId) (args : Array Value) (below : List Frame) (meth : Method) (c : Code) (A : Nat → Prop), Cx p s m args c g A cc maxL wy own → meth.sig.returnType = ret → meth.locks = false → meth.name = y.name → Vx p l e rm s m args below meth c g A maxL (MQ below (va_Qi post (mB g w' A) A) args s mc ms A) 0 0 w (lv_args 0 As) 0 []) : mI l g y wy rm As w w' post mc ms := by
  intro sz
  refine Met.ofW (cc := cc) (maxL := maxL) (ret := ret) hy hw ?_
  intro p e s m args below meth c s₁ B hml hv
  obtain ⟨rfl, hsz1, hP, hK, hD0⟩ := hv
  subst hsz1
  have hD := hD0.self (sz := s.heap.size)
  have hown : s.vm.findClass own = some m.cls := ho ▸ findClass_of_methodNamed B.named
  generalize hAe : va_A w s.heap.size = A at hD ⊢
  have hA : ∀ q : Nat, s.heap.size ≤ q → A q := fun q h => by rw [← hAe]; exact Or.inr h
  rw [lg_entry_eq]
  exact body p e s m _ below meth c A ⟨B.exec, B.bytes, hml, hown, atoms_spec (ws := wy) B.pre, hK, hA⟩ B.returns B.notSynchronized (name_of_methodNamed B.named B.method).1 s.heap [] _ hP hD va_S.rf (lv_entry As hsz)
theorem mL_of {S : Type} {l : Launch} {g : vG} {y : MethodName} {wy wy' : List Cond} {rm : Room} {As : List Value} {w : va_W} {w' : S → va_W} {post : Int64 → S → Prop} {mc ms : Nat} {cc : ByteArray} {maxL : Nat} {ret : Option FieldType} {own : String} (hy : plainName y.cls = true) (hw : wy = Cond.code y cc maxL ret :: wy') (ho : y.cls = own) (hsz : (lg_sl As).length ≤ maxL)
    (body : ∀ (p : Program) (e : Env) (s : State) (m : MethodId) (args : Array Value) (below : List Frame) (meth : Method) (c : Code) (A : Nat → Prop), Cx p s m args c g A cc maxL wy own → meth.sig.returnType = ret → meth.locks = false → meth.name = y.name → Vx p l e rm s m args below meth c g A maxL (MQ below (va_Ql post (mB g w' A) A) args s mc ms A) 0 0 w (lv_args 0 As) 0 []) : mL l g y wy rm As w w' post mc ms := by
  intro sz
  refine Met.ofW (cc := cc) (maxL := maxL) (ret := ret) hy hw ?_
  intro p e s m args below meth c s₁ B hml hv
  obtain ⟨rfl, hsz1, hP, hK, hD0⟩ := hv
  subst hsz1
  have hD := hD0.self (sz := s.heap.size)
  have hown : s.vm.findClass own = some m.cls := ho ▸ findClass_of_methodNamed B.named
  generalize hAe : va_A w s.heap.size = A at hD ⊢
  have hA : ∀ q : Nat, s.heap.size ≤ q → A q := fun q h => by rw [← hAe]; exact Or.inr h
  rw [lg_entry_eq]
  exact body p e s m _ below meth c A ⟨B.exec, B.bytes, hml, hown, atoms_spec (ws := wy) B.pre, hK, hA⟩ B.returns B.notSynchronized (name_of_methodNamed B.named B.method).1 s.heap [] _ hP hD va_S.rf (lv_entry As hsz)
theorem mF_of {S : Type} {l : Launch} {g : vG} {y : MethodName} {wy wy' : List Cond} {rm : Room} {As : List Value} {w : va_W} {w' : S → va_W} {post : UInt32 → S → Prop} {mc ms : Nat} {cc : ByteArray} {maxL : Nat} {ret : Option FieldType} {own : String} (hy : plainName y.cls = true) (hw : wy = Cond.code y cc maxL ret :: wy') (ho : y.cls = own) (hsz : (lg_sl As).length ≤ maxL)
    (body : ∀ (p : Program) (e : Env) (s : State) (m : MethodId) (args : Array Value) (below : List Frame) (meth : Method) (c : Code) (A : Nat → Prop), Cx p s m args c g A cc maxL wy own → meth.sig.returnType = ret → meth.locks = false → meth.name = y.name → Vx p l e rm s m args below meth c g A maxL (MQ below (va_Qf post (mB g w' A) A) args s mc ms A) 0 0 w (lv_args 0 As) 0 []) : mF l g y wy rm As w w' post mc ms := by
  intro sz
  refine Met.ofW (cc := cc) (maxL := maxL) (ret := ret) hy hw ?_
  intro p e s m args below meth c s₁ B hml hv
  obtain ⟨rfl, hsz1, hP, hK, hD0⟩ := hv
  subst hsz1
  have hD := hD0.self (sz := s.heap.size)
  have hown : s.vm.findClass own = some m.cls := ho ▸ findClass_of_methodNamed B.named
  generalize hAe : va_A w s.heap.size = A at hD ⊢
  have hA : ∀ q : Nat, s.heap.size ≤ q → A q := fun q h => by rw [← hAe]; exact Or.inr h
  rw [lg_entry_eq]
  exact body p e s m _ below meth c A ⟨B.exec, B.bytes, hml, hown, atoms_spec (ws := wy) B.pre, hK, hA⟩ B.returns B.notSynchronized (name_of_methodNamed B.named B.method).1 s.heap [] _ hP hD va_S.rf (lv_entry As hsz)
theorem mV_of {S : Type} {l : Launch} {g : vG} {y : MethodName} {wy wy' : List Cond} {rm : Room} {As : List Value} {w : va_W} {w' : S → va_W} {post : S → Prop} {mc ms : Nat} {cc : ByteArray} {maxL : Nat} {ret : Option FieldType} {own : String} (hy : plainName y.cls = true) (hw : wy = Cond.code y cc maxL ret :: wy') (ho : y.cls = own) (hsz : (lg_sl As).length ≤ maxL)
    (body : ∀ (p : Program) (e : Env) (s : State) (m : MethodId) (args : Array Value) (below : List Frame) (meth : Method) (c : Code) (A : Nat → Prop), Cx p s m args c g A cc maxL wy own → meth.sig.returnType = ret → meth.locks = false → meth.name = y.name → Vx p l e rm s m args below meth c g A maxL (MQ below (va_Qv post (mB g w' A) A) args s mc ms A) 0 0 w (lv_args 0 As) 0 []) : mV l g y wy rm As w w' post mc ms := by
  intro sz
  refine Met.ofW (cc := cc) (maxL := maxL) (ret := ret) hy hw ?_
  intro p e s m args below meth c s₁ B hml hv
  obtain ⟨rfl, hsz1, hP, hK, hD0⟩ := hv
  subst hsz1
  have hD := hD0.self (sz := s.heap.size)
  have hown : s.vm.findClass own = some m.cls := ho ▸ findClass_of_methodNamed B.named
  generalize hAe : va_A w s.heap.size = A at hD ⊢
  have hA : ∀ q : Nat, s.heap.size ≤ q → A q := fun q h => by rw [← hAe]; exact Or.inr h
  rw [lg_entry_eq]
  exact body p e s m _ below meth c A ⟨B.exec, B.bytes, hml, hown, atoms_spec (ws := wy) B.pre, hK, hA⟩ B.returns B.notSynchronized (name_of_methodNamed B.named B.method).1 s.heap [] _ hP hD va_S.rf (lv_entry As hsz)
section VC
variable {p : Program} {l : Launch} {e : Env} {R : Room} {s : State} {m : MethodId} {args : Array Value} {below : List Frame} {meth : Method} {c : Code} {g : vG} {A : Nat → Prop} {nL : Nat} {Q : State → Prop} {k n : Nat} {ws : va_W} {lv : List (Nat × Value)} {pc : Nat} {st : List Value} {cc : ByteArray} {Ts : List Cond} {own : String}
variable {S : Type} {w' : S → va_W} {mc ms : Nat}
theorem v_iret {post : Int32 → S → Prop} (C : Cx p s m args c g A cc nL Ts own) (hr : meth.sig.returnType = some .int) (hl : meth.locks = false) (u : S) {v : Int32} (hk : k ≤ mc) (hn : n ≤ ms) (hw : ws = w' u) (hp : post v u) (hd : decode cc pc = .ok (.ireturn, 1)) : Vx p l e R s m args below meth c g A nL (MQ below (va_Qi post (mB g w' A) A) args s mc ms A) k n ws lv pc [.int v] := fun H locs ls hP hD hS hL => W.widen hk hn (W.iret C.1 C.2.1 hr (fun t ht hW => ⟨⟨v, u, rfl, hp, by rw [ht]; exact hw ▸ hP, hw ▸ hD⟩, hS.F ht⟩) hS.2.2 hd hl)
theorem v_zret {post : Int32 → S → Prop} (C : Cx p s m args c g A cc nL Ts own) {ty : FieldType} (hr : meth.sig.returnType = some ty) (hl : meth.locks = false) (u : S) {v : Int32} (hnr : narrow ty (.int v) = .int v) (hk : k ≤ mc) (hn : n ≤ ms) (hw : ws = w' u) (hp : post v u) (hd : decode cc pc = .ok (.ireturn, 1)) : Vx p l e R s m args below meth c g A nL (MQ below (va_Qi post (mB g w' A) A) args s mc ms A) k n ws lv pc [.int v] := fun H locs ls hP hD hS hL => W.widen hk hn (W.zret C.1 C.2.1 hr hnr (fun t ht hW => ⟨⟨v, u, rfl, hp, by rw [ht]; exact hw ▸ hP, hw ▸ hD⟩, hS.F ht⟩) hS.2.2 hd hl)
theorem v_lret {post : Int64 → S → Prop} (C : Cx p s m args c g A cc nL Ts own) (hr : meth.sig.returnType = some .long) (hl : meth.locks = false) (u : S) {v : Int64} (hk : k ≤ mc) (hn : n ≤ ms) (hw : ws = w' u) (hp : post v u) (hd : decode cc pc = .ok (.lreturn, 1)) : Vx p l e R s m args below meth c g A nL (MQ below (va_Ql post (mB g w' A) A) args s mc ms A) k n ws lv pc [.long v] := fun H locs ls hP hD hS hL => W.widen hk hn (W.lret C.1 C.2.1 hr (fun t ht hW => ⟨⟨v, u, rfl, hp, by rw [ht]; exact hw ▸ hP, hw ▸ hD⟩, hS.F ht⟩) hS.2.2 hd hl)
theorem v_fret {post : UInt32 → S → Prop} (C : Cx p s m args c g A cc nL Ts own) (hr : meth.sig.returnType = some .float) (hl : meth.locks = false) (u : S) {v : UInt32} (hk : k ≤ mc) (hn : n ≤ ms) (hw : ws = w' u) (hp : post v u) (hd : decode cc pc = .ok (.freturn, 1)) : Vx p l e R s m args below meth c g A nL (MQ below (va_Qf post (mB g w' A) A) args s mc ms A) k n ws lv pc [.float v] := fun H locs ls hP hD hS hL => W.widen hk hn (W.fret C.1 C.2.1 hr (fun t ht hW => ⟨⟨v, u, rfl, hp, by rw [ht]; exact hw ▸ hP, hw ▸ hD⟩, hS.F ht⟩) hS.2.2 hd hl)
theorem v_vret {post : S → Prop} (C : Cx p s m args c g A cc nL Ts own) (hr : meth.sig.returnType = none) (hl : meth.locks = false) (u : S) (hk : k ≤ mc) (hn : n ≤ ms) (hw : ws = w' u) (hp : post u) (hd : decode cc pc = .ok (.return_, 1)) : Vx p l e R s m args below meth c g A nL (MQ below (va_Qv post (mB g w' A) A) args s mc ms A) k n ws lv pc [] := fun H locs ls hP hD hS hL => W.widen hk hn (W.vret C.1 C.2.1 hr (fun t ht hW => ⟨⟨u, rfl, hp, by rw [ht]; exact hw ▸ hP, hw ▸ hD⟩, hS.F ht⟩) hS.2.2 hd hl)
theorem v_invVI (C : Cx p s m args c g A cc nL Ts own) {y : MethodName} {wy : List Cond} {rm : Room} {As : List Value} {wc : va_W} {post : Int32 → S → Prop} {bytes : ByteArray} {maxL N index : Nat} {ret : Option FieldType} {b q0 ci : Nat} {fs : List Value} {cq : vw_C} {CN : String} (hM : mI l g y wy rm (.ref b :: As) wc w' post mc ms) (cw : CallW R s args own CN index y bytes maxL ret wy rm mc ms N) (segs : List va_W) (isC isR : List Nat) (rest : List Value) (segs2 : S → List va_W) (ws2 : S → va_W) (hok : (isC ++ isR).isPerm (List.range segs.length) = true) (hws : ws = segs.flatten) (hC : pick segs isC = wc) (hC2 : ∀ u, pick (segs2 u) isC = w' u) (hR2 : ∀ u, pick (segs2 u) isR = pick segs isR) (hL2 : ∀ u, (segs2 u).length = segs.length) (hw2 : ∀ u, (segs2 u).flatten = ws2 u) (hq : wc[q0]? = some (cO b ci fs)) (hcq : vwCl[ci]? = some cq) (hCN : cq.1 = CN) (hlen : As.length = N) (hst : st = As.reverse ++ .ref b :: rest) (hroom : (rest.map fun v => v.category).sum ≤ 8) (hd : decode cc pc = .ok (.invokevirtual index, 3)) (hf : k + mc ≤ R.cells ∧ n + ms ≤ R.slots)
    (kk : ∀ (r : Int32) (u : S), post r u → Vx p l e R s m args below meth c g A nL Q (k + mc) (n + ms) (ws2 u) lv (pc + 3) (.int r :: rest)) : Vx p l e R s m args below meth c g A nL Q k n ws lv pc st := by
  intro H locs ls hP hD hS hL
  subst hst
  subst hws
  have hpm := pick_perm hok
  rw [hC] at hpm
  have hP0 := va_P_perm hpm hP
  have hD0 := va_D_perm hpm hD
  have hPc := va_P_left hP0
  have hDc := va_D_left hD0
  have hFc := va_free_left hD0 hS C.2.2.2.2.2.2
  refine va_calli (va_runV (As := As) (rest := rest) ⟨C.1, C.2.1, C.2.2.1, C.2.2.2.1, C.2.2.2.2.1⟩ (hM H.size) cw ⟨mPc_blind g _ wc H.size, hCN ▸ va_recv C.2.2.2.2.2.1.1 hPc hcq hq, fun U hU hW => ⟨rfl, by rw [hU], by rw [hU]; exact hPc, C.2.2.2.2.2.1.warm hW, hDc.weaken (fun _ _ _ _ => trivial)⟩⟩ rfl hlen hL.1 rfl (lv_room hroom) hd hf) hS (fun q _ h => hFc q h) hFc (fun r u t H1 locs1 ht hvm hw hB hz1 hk1 hS1 => ?_)
  obtain ⟨hP1, hD1⟩ := hB
  rw [ht] at hP1
  obtain ⟨hP2, hD2⟩ := join_left hP0 hD0 hk1 hFc hP1 hD1
  have hpm2 := pick_perm (segs := segs2 u) (isC := isC) (isR := isR) (by rw [hL2 u]; exact hok)
  rw [hC2 u, hR2 u] at hpm2
  exact kk r u hw H1 locs1 ls (hw2 u ▸ va_P_perm hpm2.symm hP2) (hw2 u ▸ va_D_perm hpm2.symm hD2) hS1 hL
theorem v_invSI (C : Cx p s m args c g A cc nL Ts own) {y : MethodName} {wy : List Cond} {rm : Room} {As : List Value} {wc : va_W} {post : Int32 → S → Prop} {bytes : ByteArray} {maxL N index : Nat} {ret : Option FieldType}  (hM : mI l g y wy rm As wc w' post mc ms) (cw : CallB R s args own index y bytes maxL ret wy rm mc ms N ∧ (Cond.static y).before args s = true) (segs : List va_W) (isC isR : List Nat) (rest : List Value) (segs2 : S → List va_W) (ws2 : S → va_W) (hok : (isC ++ isR).isPerm (List.range segs.length) = true) (hws : ws = segs.flatten) (hC : pick segs isC = wc) (hC2 : ∀ u, pick (segs2 u) isC = w' u) (hR2 : ∀ u, pick (segs2 u) isR = pick segs isR) (hL2 : ∀ u, (segs2 u).length = segs.length) (hw2 : ∀ u, (segs2 u).flatten = ws2 u) (hlen : As.length = N) (hst : st = As.reverse ++ rest) (hroom : (rest.map fun v => v.category).sum ≤ 8) (hd : decode cc pc = .ok (.invokestatic index, 3)) (hf : k + mc ≤ R.cells ∧ n + ms ≤ R.slots)
    (kk : ∀ (r : Int32) (u : S), post r u → Vx p l e R s m args below meth c g A nL Q (k + mc) (n + ms) (ws2 u) lv (pc + 3) (.int r :: rest)) : Vx p l e R s m args below meth c g A nL Q k n ws lv pc st := by
  intro H locs ls hP hD hS hL
  subst hst
  subst hws
  have hpm := pick_perm hok
  rw [hC] at hpm
  have hP0 := va_P_perm hpm hP
  have hD0 := va_D_perm hpm hD
  have hPc := va_P_left hP0
  have hDc := va_D_left hD0
  have hFc := va_free_left hD0 hS C.2.2.2.2.2.2
  refine va_calli (va_runS (As := As) (rest := rest) ⟨C.1, C.2.1, C.2.2.1, C.2.2.2.1, C.2.2.2.2.1⟩ (hM H.size) cw ⟨mPc_blind g _ wc H.size, fun U hU hW => ⟨rfl, by rw [hU], by rw [hU]; exact hPc, C.2.2.2.2.2.1.warm hW, hDc.weaken (fun _ _ _ _ => trivial)⟩⟩ rfl hlen hL.1 rfl (lv_room hroom) hd hf) hS (fun q _ h => hFc q h) hFc (fun r u t H1 locs1 ht hvm hw hB hz1 hk1 hS1 => ?_)
  obtain ⟨hP1, hD1⟩ := hB
  rw [ht] at hP1
  obtain ⟨hP2, hD2⟩ := join_left hP0 hD0 hk1 hFc hP1 hD1
  have hpm2 := pick_perm (segs := segs2 u) (isC := isC) (isR := isR) (by rw [hL2 u]; exact hok)
  rw [hC2 u, hR2 u] at hpm2
  exact kk r u hw H1 locs1 ls (hw2 u ▸ va_P_perm hpm2.symm hP2) (hw2 u ▸ va_D_perm hpm2.symm hD2) hS1 hL
theorem v_invNI (C : Cx p s m args c g A cc nL Ts own) {y : MethodName} {wy : List Cond} {rm : Room} {As : List Value} {wc : va_W} {post : Int32 → S → Prop} {bytes : ByteArray} {maxL N index : Nat} {ret : Option FieldType} {host : String} (hM : mI l g y wy rm As wc w' post mc ms) (cw : va_CN R s args own index y host bytes maxL ret wy rm mc ms N ∧ (Cond.static y).before args s = true ∧ True) (segs : List va_W) (isC isR : List Nat) (rest : List Value) (segs2 : S → List va_W) (ws2 : S → va_W) (hok : (isC ++ isR).isPerm (List.range segs.length) = true) (hws : ws = segs.flatten) (hC : pick segs isC = wc) (hC2 : ∀ u, pick (segs2 u) isC = w' u) (hR2 : ∀ u, pick (segs2 u) isR = pick segs isR) (hL2 : ∀ u, (segs2 u).length = segs.length) (hw2 : ∀ u, (segs2 u).flatten = ws2 u) (hlen : As.length = N) (hst : st = As.reverse ++ rest) (hroom : (rest.map fun v => v.category).sum ≤ 8) (hd : decode cc pc = .ok (.invokestatic index, 3)) (hf : k + mc ≤ R.cells ∧ n + ms ≤ R.slots)
    (kk : ∀ (r : Int32) (u : S), post r u → Vx p l e R s m args below meth c g A nL Q (k + mc) (n + ms) (ws2 u) lv (pc + 3) (.int r :: rest)) : Vx p l e R s m args below meth c g A nL Q k n ws lv pc st := by
  intro H locs ls hP hD hS hL
  subst hst
  subst hws
  have hpm := pick_perm hok
  rw [hC] at hpm
  have hP0 := va_P_perm hpm hP
  have hD0 := va_D_perm hpm hD
  have hPc := va_P_left hP0
  have hDc := va_D_left hD0
  have hFc := va_free_left hD0 hS C.2.2.2.2.2.2
  refine va_calli (va_runSN (As := As) (rest := rest) ⟨C.1, C.2.1, C.2.2.1, C.2.2.2.1, C.2.2.2.2.1⟩ (hM H.size) cw ⟨mPc_blind g _ wc H.size, fun U hU hW => ⟨rfl, by rw [hU], by rw [hU]; exact hPc, C.2.2.2.2.2.1.warm hW, hDc.weaken (fun _ _ _ _ => trivial)⟩⟩ rfl hlen hL.1 rfl (lv_room hroom) hd hf) hS (fun q _ h => hFc q h) hFc (fun r u t H1 locs1 ht hvm hw hB hz1 hk1 hS1 => ?_)
  obtain ⟨hP1, hD1⟩ := hB
  rw [ht] at hP1
  obtain ⟨hP2, hD2⟩ := join_left hP0 hD0 hk1 hFc hP1 hD1
  have hpm2 := pick_perm (segs := segs2 u) (isC := isC) (isR := isR) (by rw [hL2 u]; exact hok)
  rw [hC2 u, hR2 u] at hpm2
  exact kk r u hw H1 locs1 ls (hw2 u ▸ va_P_perm hpm2.symm hP2) (hw2 u ▸ va_D_perm hpm2.symm hD2) hS1 hL
theorem v_invVL (C : Cx p s m args c g A cc nL Ts own) {y : MethodName} {wy : List Cond} {rm : Room} {As : List Value} {wc : va_W} {post : Int64 → S → Prop} {bytes : ByteArray} {maxL N index : Nat} {ret : Option FieldType} {b q0 ci : Nat} {fs : List Value} {cq : vw_C} {CN : String} (hM : mL l g y wy rm (.ref b :: As) wc w' post mc ms) (cw : CallW R s args own CN index y bytes maxL ret wy rm mc ms N) (segs : List va_W) (isC isR : List Nat) (rest : List Value) (segs2 : S → List va_W) (ws2 : S → va_W) (hok : (isC ++ isR).isPerm (List.range segs.length) = true) (hws : ws = segs.flatten) (hC : pick segs isC = wc) (hC2 : ∀ u, pick (segs2 u) isC = w' u) (hR2 : ∀ u, pick (segs2 u) isR = pick segs isR) (hL2 : ∀ u, (segs2 u).length = segs.length) (hw2 : ∀ u, (segs2 u).flatten = ws2 u) (hq : wc[q0]? = some (cO b ci fs)) (hcq : vwCl[ci]? = some cq) (hCN : cq.1 = CN) (hlen : As.length = N) (hst : st = As.reverse ++ .ref b :: rest) (hroom : (rest.map fun v => v.category).sum ≤ 8) (hd : decode cc pc = .ok (.invokevirtual index, 3)) (hf : k + mc ≤ R.cells ∧ n + ms ≤ R.slots)
    (kk : ∀ (r : Int64) (u : S), post r u → Vx p l e R s m args below meth c g A nL Q (k + mc) (n + ms) (ws2 u) lv (pc + 3) (.long r :: rest)) : Vx p l e R s m args below meth c g A nL Q k n ws lv pc st := by
  intro H locs ls hP hD hS hL
  subst hst
  subst hws
  have hpm := pick_perm hok
  rw [hC] at hpm
  have hP0 := va_P_perm hpm hP
  have hD0 := va_D_perm hpm hD
  have hPc := va_P_left hP0
  have hDc := va_D_left hD0
  have hFc := va_free_left hD0 hS C.2.2.2.2.2.2
  refine va_calll (va_runV (As := As) (rest := rest) ⟨C.1, C.2.1, C.2.2.1, C.2.2.2.1, C.2.2.2.2.1⟩ (hM H.size) cw ⟨mPc_blind g _ wc H.size, hCN ▸ va_recv C.2.2.2.2.2.1.1 hPc hcq hq, fun U hU hW => ⟨rfl, by rw [hU], by rw [hU]; exact hPc, C.2.2.2.2.2.1.warm hW, hDc.weaken (fun _ _ _ _ => trivial)⟩⟩ rfl hlen hL.1 rfl (lv_room hroom) hd hf) hS (fun q _ h => hFc q h) hFc (fun r u t H1 locs1 ht hvm hw hB hz1 hk1 hS1 => ?_)
  obtain ⟨hP1, hD1⟩ := hB
  rw [ht] at hP1
  obtain ⟨hP2, hD2⟩ := join_left hP0 hD0 hk1 hFc hP1 hD1
  have hpm2 := pick_perm (segs := segs2 u) (isC := isC) (isR := isR) (by rw [hL2 u]; exact hok)
  rw [hC2 u, hR2 u] at hpm2
  exact kk r u hw H1 locs1 ls (hw2 u ▸ va_P_perm hpm2.symm hP2) (hw2 u ▸ va_D_perm hpm2.symm hD2) hS1 hL
theorem v_invSL (C : Cx p s m args c g A cc nL Ts own) {y : MethodName} {wy : List Cond} {rm : Room} {As : List Value} {wc : va_W} {post : Int64 → S → Prop} {bytes : ByteArray} {maxL N index : Nat} {ret : Option FieldType}  (hM : mL l g y wy rm As wc w' post mc ms) (cw : CallB R s args own index y bytes maxL ret wy rm mc ms N ∧ (Cond.static y).before args s = true) (segs : List va_W) (isC isR : List Nat) (rest : List Value) (segs2 : S → List va_W) (ws2 : S → va_W) (hok : (isC ++ isR).isPerm (List.range segs.length) = true) (hws : ws = segs.flatten) (hC : pick segs isC = wc) (hC2 : ∀ u, pick (segs2 u) isC = w' u) (hR2 : ∀ u, pick (segs2 u) isR = pick segs isR) (hL2 : ∀ u, (segs2 u).length = segs.length) (hw2 : ∀ u, (segs2 u).flatten = ws2 u) (hlen : As.length = N) (hst : st = As.reverse ++ rest) (hroom : (rest.map fun v => v.category).sum ≤ 8) (hd : decode cc pc = .ok (.invokestatic index, 3)) (hf : k + mc ≤ R.cells ∧ n + ms ≤ R.slots)
    (kk : ∀ (r : Int64) (u : S), post r u → Vx p l e R s m args below meth c g A nL Q (k + mc) (n + ms) (ws2 u) lv (pc + 3) (.long r :: rest)) : Vx p l e R s m args below meth c g A nL Q k n ws lv pc st := by
  intro H locs ls hP hD hS hL
  subst hst
  subst hws
  have hpm := pick_perm hok
  rw [hC] at hpm
  have hP0 := va_P_perm hpm hP
  have hD0 := va_D_perm hpm hD
  have hPc := va_P_left hP0
  have hDc := va_D_left hD0
  have hFc := va_free_left hD0 hS C.2.2.2.2.2.2
  refine va_calll (va_runS (As := As) (rest := rest) ⟨C.1, C.2.1, C.2.2.1, C.2.2.2.1, C.2.2.2.2.1⟩ (hM H.size) cw ⟨mPc_blind g _ wc H.size, fun U hU hW => ⟨rfl, by rw [hU], by rw [hU]; exact hPc, C.2.2.2.2.2.1.warm hW, hDc.weaken (fun _ _ _ _ => trivial)⟩⟩ rfl hlen hL.1 rfl (lv_room hroom) hd hf) hS (fun q _ h => hFc q h) hFc (fun r u t H1 locs1 ht hvm hw hB hz1 hk1 hS1 => ?_)
  obtain ⟨hP1, hD1⟩ := hB
  rw [ht] at hP1
  obtain ⟨hP2, hD2⟩ := join_left hP0 hD0 hk1 hFc hP1 hD1
  have hpm2 := pick_perm (segs := segs2 u) (isC := isC) (isR := isR) (by rw [hL2 u]; exact hok)
  rw [hC2 u, hR2 u] at hpm2
  exact kk r u hw H1 locs1 ls (hw2 u ▸ va_P_perm hpm2.symm hP2) (hw2 u ▸ va_D_perm hpm2.symm hD2) hS1 hL
theorem v_invNL (C : Cx p s m args c g A cc nL Ts own) {y : MethodName} {wy : List Cond} {rm : Room} {As : List Value} {wc : va_W} {post : Int64 → S → Prop} {bytes : ByteArray} {maxL N index : Nat} {ret : Option FieldType} {host : String} (hM : mL l g y wy rm As wc w' post mc ms) (cw : va_CN R s args own index y host bytes maxL ret wy rm mc ms N ∧ (Cond.static y).before args s = true ∧ True) (segs : List va_W) (isC isR : List Nat) (rest : List Value) (segs2 : S → List va_W) (ws2 : S → va_W) (hok : (isC ++ isR).isPerm (List.range segs.length) = true) (hws : ws = segs.flatten) (hC : pick segs isC = wc) (hC2 : ∀ u, pick (segs2 u) isC = w' u) (hR2 : ∀ u, pick (segs2 u) isR = pick segs isR) (hL2 : ∀ u, (segs2 u).length = segs.length) (hw2 : ∀ u, (segs2 u).flatten = ws2 u) (hlen : As.length = N) (hst : st = As.reverse ++ rest) (hroom : (rest.map fun v => v.category).sum ≤ 8) (hd : decode cc pc = .ok (.invokestatic index, 3)) (hf : k + mc ≤ R.cells ∧ n + ms ≤ R.slots)
    (kk : ∀ (r : Int64) (u : S), post r u → Vx p l e R s m args below meth c g A nL Q (k + mc) (n + ms) (ws2 u) lv (pc + 3) (.long r :: rest)) : Vx p l e R s m args below meth c g A nL Q k n ws lv pc st := by
  intro H locs ls hP hD hS hL
  subst hst
  subst hws
  have hpm := pick_perm hok
  rw [hC] at hpm
  have hP0 := va_P_perm hpm hP
  have hD0 := va_D_perm hpm hD
  have hPc := va_P_left hP0
  have hDc := va_D_left hD0
  have hFc := va_free_left hD0 hS C.2.2.2.2.2.2
  refine va_calll (va_runSN (As := As) (rest := rest) ⟨C.1, C.2.1, C.2.2.1, C.2.2.2.1, C.2.2.2.2.1⟩ (hM H.size) cw ⟨mPc_blind g _ wc H.size, fun U hU hW => ⟨rfl, by rw [hU], by rw [hU]; exact hPc, C.2.2.2.2.2.1.warm hW, hDc.weaken (fun _ _ _ _ => trivial)⟩⟩ rfl hlen hL.1 rfl (lv_room hroom) hd hf) hS (fun q _ h => hFc q h) hFc (fun r u t H1 locs1 ht hvm hw hB hz1 hk1 hS1 => ?_)
  obtain ⟨hP1, hD1⟩ := hB
  rw [ht] at hP1
  obtain ⟨hP2, hD2⟩ := join_left hP0 hD0 hk1 hFc hP1 hD1
  have hpm2 := pick_perm (segs := segs2 u) (isC := isC) (isR := isR) (by rw [hL2 u]; exact hok)
  rw [hC2 u, hR2 u] at hpm2
  exact kk r u hw H1 locs1 ls (hw2 u ▸ va_P_perm hpm2.symm hP2) (hw2 u ▸ va_D_perm hpm2.symm hD2) hS1 hL
theorem v_invVF (C : Cx p s m args c g A cc nL Ts own) {y : MethodName} {wy : List Cond} {rm : Room} {As : List Value} {wc : va_W} {post : UInt32 → S → Prop} {bytes : ByteArray} {maxL N index : Nat} {ret : Option FieldType} {b q0 ci : Nat} {fs : List Value} {cq : vw_C} {CN : String} (hM : mF l g y wy rm (.ref b :: As) wc w' post mc ms) (cw : CallW R s args own CN index y bytes maxL ret wy rm mc ms N) (segs : List va_W) (isC isR : List Nat) (rest : List Value) (segs2 : S → List va_W) (ws2 : S → va_W) (hok : (isC ++ isR).isPerm (List.range segs.length) = true) (hws : ws = segs.flatten) (hC : pick segs isC = wc) (hC2 : ∀ u, pick (segs2 u) isC = w' u) (hR2 : ∀ u, pick (segs2 u) isR = pick segs isR) (hL2 : ∀ u, (segs2 u).length = segs.length) (hw2 : ∀ u, (segs2 u).flatten = ws2 u) (hq : wc[q0]? = some (cO b ci fs)) (hcq : vwCl[ci]? = some cq) (hCN : cq.1 = CN) (hlen : As.length = N) (hst : st = As.reverse ++ .ref b :: rest) (hroom : (rest.map fun v => v.category).sum ≤ 8) (hd : decode cc pc = .ok (.invokevirtual index, 3)) (hf : k + mc ≤ R.cells ∧ n + ms ≤ R.slots)
    (kk : ∀ (r : UInt32) (u : S), post r u → Vx p l e R s m args below meth c g A nL Q (k + mc) (n + ms) (ws2 u) lv (pc + 3) (.float r :: rest)) : Vx p l e R s m args below meth c g A nL Q k n ws lv pc st := by
  intro H locs ls hP hD hS hL
  subst hst
  subst hws
  have hpm := pick_perm hok
  rw [hC] at hpm
  have hP0 := va_P_perm hpm hP
  have hD0 := va_D_perm hpm hD
  have hPc := va_P_left hP0
  have hDc := va_D_left hD0
  have hFc := va_free_left hD0 hS C.2.2.2.2.2.2
  refine va_callf (va_runV (As := As) (rest := rest) ⟨C.1, C.2.1, C.2.2.1, C.2.2.2.1, C.2.2.2.2.1⟩ (hM H.size) cw ⟨mPc_blind g _ wc H.size, hCN ▸ va_recv C.2.2.2.2.2.1.1 hPc hcq hq, fun U hU hW => ⟨rfl, by rw [hU], by rw [hU]; exact hPc, C.2.2.2.2.2.1.warm hW, hDc.weaken (fun _ _ _ _ => trivial)⟩⟩ rfl hlen hL.1 rfl (lv_room hroom) hd hf) hS (fun q _ h => hFc q h) hFc (fun r u t H1 locs1 ht hvm hw hB hz1 hk1 hS1 => ?_)
  obtain ⟨hP1, hD1⟩ := hB
  rw [ht] at hP1
  obtain ⟨hP2, hD2⟩ := join_left hP0 hD0 hk1 hFc hP1 hD1
  have hpm2 := pick_perm (segs := segs2 u) (isC := isC) (isR := isR) (by rw [hL2 u]; exact hok)
  rw [hC2 u, hR2 u] at hpm2
  exact kk r u hw H1 locs1 ls (hw2 u ▸ va_P_perm hpm2.symm hP2) (hw2 u ▸ va_D_perm hpm2.symm hD2) hS1 hL
theorem v_invSF (C : Cx p s m args c g A cc nL Ts own) {y : MethodName} {wy : List Cond} {rm : Room} {As : List Value} {wc : va_W} {post : UInt32 → S → Prop} {bytes : ByteArray} {maxL N index : Nat} {ret : Option FieldType}  (hM : mF l g y wy rm As wc w' post mc ms) (cw : CallB R s args own index y bytes maxL ret wy rm mc ms N ∧ (Cond.static y).before args s = true) (segs : List va_W) (isC isR : List Nat) (rest : List Value) (segs2 : S → List va_W) (ws2 : S → va_W) (hok : (isC ++ isR).isPerm (List.range segs.length) = true) (hws : ws = segs.flatten) (hC : pick segs isC = wc) (hC2 : ∀ u, pick (segs2 u) isC = w' u) (hR2 : ∀ u, pick (segs2 u) isR = pick segs isR) (hL2 : ∀ u, (segs2 u).length = segs.length) (hw2 : ∀ u, (segs2 u).flatten = ws2 u) (hlen : As.length = N) (hst : st = As.reverse ++ rest) (hroom : (rest.map fun v => v.category).sum ≤ 8) (hd : decode cc pc = .ok (.invokestatic index, 3)) (hf : k + mc ≤ R.cells ∧ n + ms ≤ R.slots)
    (kk : ∀ (r : UInt32) (u : S), post r u → Vx p l e R s m args below meth c g A nL Q (k + mc) (n + ms) (ws2 u) lv (pc + 3) (.float r :: rest)) : Vx p l e R s m args below meth c g A nL Q k n ws lv pc st := by
  intro H locs ls hP hD hS hL
  subst hst
  subst hws
  have hpm := pick_perm hok
  rw [hC] at hpm
  have hP0 := va_P_perm hpm hP
  have hD0 := va_D_perm hpm hD
  have hPc := va_P_left hP0
  have hDc := va_D_left hD0
  have hFc := va_free_left hD0 hS C.2.2.2.2.2.2
  refine va_callf (va_runS (As := As) (rest := rest) ⟨C.1, C.2.1, C.2.2.1, C.2.2.2.1, C.2.2.2.2.1⟩ (hM H.size) cw ⟨mPc_blind g _ wc H.size, fun U hU hW => ⟨rfl, by rw [hU], by rw [hU]; exact hPc, C.2.2.2.2.2.1.warm hW, hDc.weaken (fun _ _ _ _ => trivial)⟩⟩ rfl hlen hL.1 rfl (lv_room hroom) hd hf) hS (fun q _ h => hFc q h) hFc (fun r u t H1 locs1 ht hvm hw hB hz1 hk1 hS1 => ?_)
  obtain ⟨hP1, hD1⟩ := hB
  rw [ht] at hP1
  obtain ⟨hP2, hD2⟩ := join_left hP0 hD0 hk1 hFc hP1 hD1
  have hpm2 := pick_perm (segs := segs2 u) (isC := isC) (isR := isR) (by rw [hL2 u]; exact hok)
  rw [hC2 u, hR2 u] at hpm2
  exact kk r u hw H1 locs1 ls (hw2 u ▸ va_P_perm hpm2.symm hP2) (hw2 u ▸ va_D_perm hpm2.symm hD2) hS1 hL
theorem v_invNF (C : Cx p s m args c g A cc nL Ts own) {y : MethodName} {wy : List Cond} {rm : Room} {As : List Value} {wc : va_W} {post : UInt32 → S → Prop} {bytes : ByteArray} {maxL N index : Nat} {ret : Option FieldType} {host : String} (hM : mF l g y wy rm As wc w' post mc ms) (cw : va_CN R s args own index y host bytes maxL ret wy rm mc ms N ∧ (Cond.static y).before args s = true ∧ True) (segs : List va_W) (isC isR : List Nat) (rest : List Value) (segs2 : S → List va_W) (ws2 : S → va_W) (hok : (isC ++ isR).isPerm (List.range segs.length) = true) (hws : ws = segs.flatten) (hC : pick segs isC = wc) (hC2 : ∀ u, pick (segs2 u) isC = w' u) (hR2 : ∀ u, pick (segs2 u) isR = pick segs isR) (hL2 : ∀ u, (segs2 u).length = segs.length) (hw2 : ∀ u, (segs2 u).flatten = ws2 u) (hlen : As.length = N) (hst : st = As.reverse ++ rest) (hroom : (rest.map fun v => v.category).sum ≤ 8) (hd : decode cc pc = .ok (.invokestatic index, 3)) (hf : k + mc ≤ R.cells ∧ n + ms ≤ R.slots)
    (kk : ∀ (r : UInt32) (u : S), post r u → Vx p l e R s m args below meth c g A nL Q (k + mc) (n + ms) (ws2 u) lv (pc + 3) (.float r :: rest)) : Vx p l e R s m args below meth c g A nL Q k n ws lv pc st := by
  intro H locs ls hP hD hS hL
  subst hst
  subst hws
  have hpm := pick_perm hok
  rw [hC] at hpm
  have hP0 := va_P_perm hpm hP
  have hD0 := va_D_perm hpm hD
  have hPc := va_P_left hP0
  have hDc := va_D_left hD0
  have hFc := va_free_left hD0 hS C.2.2.2.2.2.2
  refine va_callf (va_runSN (As := As) (rest := rest) ⟨C.1, C.2.1, C.2.2.1, C.2.2.2.1, C.2.2.2.2.1⟩ (hM H.size) cw ⟨mPc_blind g _ wc H.size, fun U hU hW => ⟨rfl, by rw [hU], by rw [hU]; exact hPc, C.2.2.2.2.2.1.warm hW, hDc.weaken (fun _ _ _ _ => trivial)⟩⟩ rfl hlen hL.1 rfl (lv_room hroom) hd hf) hS (fun q _ h => hFc q h) hFc (fun r u t H1 locs1 ht hvm hw hB hz1 hk1 hS1 => ?_)
  obtain ⟨hP1, hD1⟩ := hB
  rw [ht] at hP1
  obtain ⟨hP2, hD2⟩ := join_left hP0 hD0 hk1 hFc hP1 hD1
  have hpm2 := pick_perm (segs := segs2 u) (isC := isC) (isR := isR) (by rw [hL2 u]; exact hok)
  rw [hC2 u, hR2 u] at hpm2
  exact kk r u hw H1 locs1 ls (hw2 u ▸ va_P_perm hpm2.symm hP2) (hw2 u ▸ va_D_perm hpm2.symm hD2) hS1 hL
theorem v_invVV (C : Cx p s m args c g A cc nL Ts own) {y : MethodName} {wy : List Cond} {rm : Room} {As : List Value} {wc : va_W} {post : S → Prop} {bytes : ByteArray} {maxL N index : Nat} {ret : Option FieldType} {b q0 ci : Nat} {fs : List Value} {cq : vw_C} {CN : String} (hM : mV l g y wy rm (.ref b :: As) wc w' post mc ms) (cw : CallW R s args own CN index y bytes maxL ret wy rm mc ms N) (segs : List va_W) (isC isR : List Nat) (rest : List Value) (segs2 : S → List va_W) (ws2 : S → va_W) (hok : (isC ++ isR).isPerm (List.range segs.length) = true) (hws : ws = segs.flatten) (hC : pick segs isC = wc) (hC2 : ∀ u, pick (segs2 u) isC = w' u) (hR2 : ∀ u, pick (segs2 u) isR = pick segs isR) (hL2 : ∀ u, (segs2 u).length = segs.length) (hw2 : ∀ u, (segs2 u).flatten = ws2 u) (hq : wc[q0]? = some (cO b ci fs)) (hcq : vwCl[ci]? = some cq) (hCN : cq.1 = CN) (hlen : As.length = N) (hst : st = As.reverse ++ .ref b :: rest) (hroom : (rest.map fun v => v.category).sum ≤ 8) (hd : decode cc pc = .ok (.invokevirtual index, 3)) (hf : k + mc ≤ R.cells ∧ n + ms ≤ R.slots)
    (kk : ∀ u : S, post u → Vx p l e R s m args below meth c g A nL Q (k + mc) (n + ms) (ws2 u) lv (pc + 3) (rest)) : Vx p l e R s m args below meth c g A nL Q k n ws lv pc st := by
  intro H locs ls hP hD hS hL
  subst hst
  subst hws
  have hpm := pick_perm hok
  rw [hC] at hpm
  have hP0 := va_P_perm hpm hP
  have hD0 := va_D_perm hpm hD
  have hPc := va_P_left hP0
  have hDc := va_D_left hD0
  have hFc := va_free_left hD0 hS C.2.2.2.2.2.2
  refine va_callv (va_runV (As := As) (rest := rest) ⟨C.1, C.2.1, C.2.2.1, C.2.2.2.1, C.2.2.2.2.1⟩ (hM H.size) cw ⟨mPc_blind g _ wc H.size, hCN ▸ va_recv C.2.2.2.2.2.1.1 hPc hcq hq, fun U hU hW => ⟨rfl, by rw [hU], by rw [hU]; exact hPc, C.2.2.2.2.2.1.warm hW, hDc.weaken (fun _ _ _ _ => trivial)⟩⟩ rfl hlen hL.1 rfl (lv_room hroom) hd hf) hS (fun q _ h => hFc q h) hFc (fun u t H1 locs1 ht hvm hw hB hz1 hk1 hS1 => ?_)
  obtain ⟨hP1, hD1⟩ := hB
  rw [ht] at hP1
  obtain ⟨hP2, hD2⟩ := join_left hP0 hD0 hk1 hFc hP1 hD1
  have hpm2 := pick_perm (segs := segs2 u) (isC := isC) (isR := isR) (by rw [hL2 u]; exact hok)
  rw [hC2 u, hR2 u] at hpm2
  exact kk u hw H1 locs1 ls (hw2 u ▸ va_P_perm hpm2.symm hP2) (hw2 u ▸ va_D_perm hpm2.symm hD2) hS1 hL
theorem v_invSV (C : Cx p s m args c g A cc nL Ts own) {y : MethodName} {wy : List Cond} {rm : Room} {As : List Value} {wc : va_W} {post : S → Prop} {bytes : ByteArray} {maxL N index : Nat} {ret : Option FieldType}  (hM : mV l g y wy rm As wc w' post mc ms) (cw : CallB R s args own index y bytes maxL ret wy rm mc ms N ∧ (Cond.static y).before args s = true) (segs : List va_W) (isC isR : List Nat) (rest : List Value) (segs2 : S → List va_W) (ws2 : S → va_W) (hok : (isC ++ isR).isPerm (List.range segs.length) = true) (hws : ws = segs.flatten) (hC : pick segs isC = wc) (hC2 : ∀ u, pick (segs2 u) isC = w' u) (hR2 : ∀ u, pick (segs2 u) isR = pick segs isR) (hL2 : ∀ u, (segs2 u).length = segs.length) (hw2 : ∀ u, (segs2 u).flatten = ws2 u) (hlen : As.length = N) (hst : st = As.reverse ++ rest) (hroom : (rest.map fun v => v.category).sum ≤ 8) (hd : decode cc pc = .ok (.invokestatic index, 3)) (hf : k + mc ≤ R.cells ∧ n + ms ≤ R.slots)
    (kk : ∀ u : S, post u → Vx p l e R s m args below meth c g A nL Q (k + mc) (n + ms) (ws2 u) lv (pc + 3) (rest)) : Vx p l e R s m args below meth c g A nL Q k n ws lv pc st := by
  intro H locs ls hP hD hS hL
  subst hst
  subst hws
  have hpm := pick_perm hok
  rw [hC] at hpm
  have hP0 := va_P_perm hpm hP
  have hD0 := va_D_perm hpm hD
  have hPc := va_P_left hP0
  have hDc := va_D_left hD0
  have hFc := va_free_left hD0 hS C.2.2.2.2.2.2
  refine va_callv (va_runS (As := As) (rest := rest) ⟨C.1, C.2.1, C.2.2.1, C.2.2.2.1, C.2.2.2.2.1⟩ (hM H.size) cw ⟨mPc_blind g _ wc H.size, fun U hU hW => ⟨rfl, by rw [hU], by rw [hU]; exact hPc, C.2.2.2.2.2.1.warm hW, hDc.weaken (fun _ _ _ _ => trivial)⟩⟩ rfl hlen hL.1 rfl (lv_room hroom) hd hf) hS (fun q _ h => hFc q h) hFc (fun u t H1 locs1 ht hvm hw hB hz1 hk1 hS1 => ?_)
  obtain ⟨hP1, hD1⟩ := hB
  rw [ht] at hP1
  obtain ⟨hP2, hD2⟩ := join_left hP0 hD0 hk1 hFc hP1 hD1
  have hpm2 := pick_perm (segs := segs2 u) (isC := isC) (isR := isR) (by rw [hL2 u]; exact hok)
  rw [hC2 u, hR2 u] at hpm2
  exact kk u hw H1 locs1 ls (hw2 u ▸ va_P_perm hpm2.symm hP2) (hw2 u ▸ va_D_perm hpm2.symm hD2) hS1 hL
theorem v_invNV (C : Cx p s m args c g A cc nL Ts own) {y : MethodName} {wy : List Cond} {rm : Room} {As : List Value} {wc : va_W} {post : S → Prop} {bytes : ByteArray} {maxL N index : Nat} {ret : Option FieldType} {host : String} (hM : mV l g y wy rm As wc w' post mc ms) (cw : va_CN R s args own index y host bytes maxL ret wy rm mc ms N ∧ (Cond.static y).before args s = true ∧ True) (segs : List va_W) (isC isR : List Nat) (rest : List Value) (segs2 : S → List va_W) (ws2 : S → va_W) (hok : (isC ++ isR).isPerm (List.range segs.length) = true) (hws : ws = segs.flatten) (hC : pick segs isC = wc) (hC2 : ∀ u, pick (segs2 u) isC = w' u) (hR2 : ∀ u, pick (segs2 u) isR = pick segs isR) (hL2 : ∀ u, (segs2 u).length = segs.length) (hw2 : ∀ u, (segs2 u).flatten = ws2 u) (hlen : As.length = N) (hst : st = As.reverse ++ rest) (hroom : (rest.map fun v => v.category).sum ≤ 8) (hd : decode cc pc = .ok (.invokestatic index, 3)) (hf : k + mc ≤ R.cells ∧ n + ms ≤ R.slots)
    (kk : ∀ u : S, post u → Vx p l e R s m args below meth c g A nL Q (k + mc) (n + ms) (ws2 u) lv (pc + 3) (rest)) : Vx p l e R s m args below meth c g A nL Q k n ws lv pc st := by
  intro H locs ls hP hD hS hL
  subst hst
  subst hws
  have hpm := pick_perm hok
  rw [hC] at hpm
  have hP0 := va_P_perm hpm hP
  have hD0 := va_D_perm hpm hD
  have hPc := va_P_left hP0
  have hDc := va_D_left hD0
  have hFc := va_free_left hD0 hS C.2.2.2.2.2.2
  refine va_callv (va_runSN (As := As) (rest := rest) ⟨C.1, C.2.1, C.2.2.1, C.2.2.2.1, C.2.2.2.2.1⟩ (hM H.size) cw ⟨mPc_blind g _ wc H.size, fun U hU hW => ⟨rfl, by rw [hU], by rw [hU]; exact hPc, C.2.2.2.2.2.1.warm hW, hDc.weaken (fun _ _ _ _ => trivial)⟩⟩ rfl hlen hL.1 rfl (lv_room hroom) hd hf) hS (fun q _ h => hFc q h) hFc (fun u t H1 locs1 ht hvm hw hB hz1 hk1 hS1 => ?_)
  obtain ⟨hP1, hD1⟩ := hB
  rw [ht] at hP1
  obtain ⟨hP2, hD2⟩ := join_left hP0 hD0 hk1 hFc hP1 hD1
  have hpm2 := pick_perm (segs := segs2 u) (isC := isC) (isR := isR) (by rw [hL2 u]; exact hok)
  rw [hC2 u, hR2 u] at hpm2
  exact kk u hw H1 locs1 ls (hw2 u ▸ va_P_perm hpm2.symm hP2) (hw2 u ▸ va_D_perm hpm2.symm hD2) hS1 hL
end VC
