/-! methods of the law with a table of their own: they catch what the class throws -/
abbrev exL : List String := [eIO, eIA, eIS, eUO, eNE]
def x_NC (U : State) : Prop := ∀ E ∈ exL, ∀ F ∈ exL, E ≠ F → va_Nc E F U
theorem x_NC.moved {u U : State} (hvm : u.vm.Alike U.vm) (h : x_NC u) : x_NC U := fun E hE F hF hne => (h E hE F hF hne).moved hvm
theorem x_N.cast {s : State} {args : Array Value} (h : x_N s) : ∀ E ∈ exL, (Cond.castable E E).before args s = true := by
  obtain ⟨h1, h2, h3, h4, h5, h6, h7, h8⟩ := h
  exact List.forall_mem_cons.mpr ⟨va_any rfl h4, List.forall_mem_cons.mpr ⟨va_any rfl h5, List.forall_mem_cons.mpr ⟨va_any rfl h6, List.forall_mem_cons.mpr ⟨va_any rfl h7, List.forall_mem_cons.mpr ⟨va_any rfl h8, fun _ h => nomatch h⟩⟩⟩⟩⟩
def Tw (s : State) (c : Code) (A : Nat → Prop) (sa : Nat → Nat) (hh : List (Nat × Nat × Nat × Nat)) : Prop := c.exceptionTable.toList = tableOf hh ∧ x_N s ∧ x_S sa s ∧ x_Z A s s.heap ∧ x_NC s
def wPc (g : vG) (sa : Nat → Nat) (As : List Value) (w : va_W) (sz : Nat) : Array Value → State → Prop := va_Pc As (fun U => U.heap.size = sz ∧ va_P g.1 vwCl w U.heap ∧ v_K g U ∧ va_D (fun _ => True) w ∧ x_N U ∧ x_S sa U ∧ x_Z (va_A w sz) U U.heap ∧ x_NC U)
theorem wPc_blind (g : vG) (sa : Nat → Nat) (As : List Value) (w : va_W) (sz : Nat) : FrameBlind (wPc g sa As w sz) := fun a U gg mk h => ⟨h.1, h.2.1, h.2.2.1, h.2.2.2.1.same rfl, h.2.2.2.2.1, h.2.2.2.2.2.1.moved (Vm.Alike.refl U.vm), h.2.2.2.2.2.2.1.same rfl, x_Z.moved (Vm.Alike.refl U.vm) h.2.2.2.2.2.2.2.1, h.2.2.2.2.2.2.2.2.moved (Vm.Alike.refl U.vm)⟩
def wI {S : Type} (l : Launch) (g : vG) (sa : Nat → Nat) (y : MethodName) (wy : List Cond) (rm : Room) (As : List Value) (w : va_W) (w' : S → va_W) (post : Int32 → S → Prop) (mc ms : Nat) : Prop := ∀ sz : Nat, Met l y wy rm (wPc g sa As w sz) (va_Qi post (mB g w' (va_A w sz)) (va_A w sz)) mc ms (va_A w sz)
theorem Met_ofWH {l : Launch} {y : MethodName} {ws ws' : List Cond} {rm : Room} {Pc : Array Value → State → Prop} {Qc : Array Value → State → Outcome → State → Prop} {mc ms : Nat} {free : Addr → Prop} {cc : ByteArray} {maxL : Nat} {ret : Option FieldType} {hh : List (Nat × Nat × Nat × Nat)}
    (hy : plainName y.cls = true) (hw : ws = Cond.codeWith y cc maxL ret hh :: ws')
    (body : ∀ p e s m args below meth c s₁, BodyLoose p l y (headSpec ws rm) cc maxL ret e s m args below meth c s₁ → c.maxLocals = maxL → Pc args s →
      W p l e (headSpec ws rm).room s m args below meth c s.heap [] 0 0 (MQ below Qc args s mc ms free) (entryFrame m args maxL)) : Met l y ws rm Pc Qc mc ms free := by
  refine MetFree.of_bodyS (code := cc) (maxLocals := maxL) (ret := ret) hy ?_ ?_
  · intro args s m h hn
    obtain ⟨m9, meth, c, hn9, h1, h2, h3, h4, -, h5, h6, -⟩ := Cond.codeWith_spec (atoms_spec (ws := ws) h _ (by rw [hw]; exact List.mem_cons_self))
    cases hn.symm.trans hn9
    exact ⟨meth, c, h1, h2, h3, h4, h5, h6⟩
  · intro p e s m args below meth c s₁ B hml hP _
    have hh0 : s₁.heap = s.heap := by rw [B.state]; rfl
    obtain ⟨t, a1, o, b1, b2, b3⟩ := body p e s m args below meth c s₁ B hml hP s₁ hh0 (Stand.of_body B)
    exact ⟨t, o, a1, b1, b2, b3⟩
theorem w_of {S : Type} {l : Launch} {g : vG} {sa : Nat → Nat} {y : MethodName} {wy wy' : List Cond} {rm : Room} {As : List Value} {w : va_W} {w' : S → va_W} {post : Int32 → S → Prop} {mc ms : Nat} {cc : ByteArray} {maxL : Nat} {ret : Option FieldType} {own : String} {hh : List (Nat × Nat × Nat × Nat)} (hy : plainName y.cls = true) (hw : wy = Cond.codeWith y cc maxL ret hh :: wy') (ho : y.cls = own) (hsz : (lg_sl As).length ≤ maxL)
    (body : ∀ (p : Program) (e : Env) (s : State) (m : MethodId) (args : Array Value) (below : List Frame) (meth : Method) (c : Code) (A : Nat → Prop), Cx p s m args c g A cc maxL wy own → Tw s c A sa hh → meth.sig.returnType = ret → meth.locks = false → Vx p l e rm s m args below meth c g A maxL (MQ below (va_Qi post (mB g w' A) A) args s mc ms A) 0 0 w (lv_args 0 As) 0 []) : wI l g sa y wy rm As w w' post mc ms := by
  intro sz
  refine Met_ofWH (cc := cc) (maxL := maxL) (ret := ret) (hh := hh) hy hw ?_
  intro p e s m args below meth c s₁ B hml hv
  obtain ⟨rfl, hsz1, hP, hK, hD0, hN, hS, hZ, hNC⟩ := hv
  subst hsz1
  have hD := hD0.self (sz := s.heap.size)
  have hown : s.vm.findClass own = some m.cls := ho ▸ findClass_of_methodNamed B.named
  generalize hAe : va_A w s.heap.size = A at hD hZ ⊢
  have hA : ∀ q : Nat, s.heap.size ≤ q → A q := fun q h => by rw [← hAe]; exact Or.inr h
  have hcw : Cond.codeWith y cc maxL ret hh ∈ wy := by rw [hw]; exact List.mem_cons_self
  rw [lg_entry_eq]
  exact body p e s m _ below meth c A ⟨B.exec, B.bytes, hml, hown, atoms_spec (ws := wy) B.pre, hK, hA⟩ ⟨vx_table (x := y) B (atoms_spec (ws := wy) B.pre _ hcw), hN, hS, hZ, hNC⟩ B.returns B.notSynchronized s.heap [] _ hP hD va_S.rf (lv_entry As hsz)
section WC
variable {p : Program} {l : Launch} {e : Env} {R : Room} {s : State} {m : MethodId} {args : Array Value} {below : List Frame} {meth : Method} {c : Code} {g : vG} {A : Nat → Prop} {nL : Nat} {Q : State → Prop} {k n : Nat} {ws : va_W} {lv : List (Nat × Value)} {pc : Nat} {st : List Value} {cc : ByteArray} {Ts : List Cond} {own : String} {sa : Nat → Nat} {S SX : Type} {w' : S → va_W} {wx : SX → va_W} {mc1 ms1 : Nat} {pE1 : String → SX → Prop} {hh : List (Nat × Nat × Nat × Nat)}
theorem v_cokI (C : Cx p s m args c g A cc nL Ts own) (X : Tw s c A sa hh) {y : MethodName} {wy : List Cond} {rm : Room} {As : List Value} {wc : va_W} {post : Int32 → S → Prop} {bytes : ByteArray} {maxL N index : Nat} {ret : Option FieldType} {b q0 ci : Nat} {fs : List Value} {cq : vw_C} {CN : String} (hM : ∀ sz : Nat, vx_Met l y wy rm (xPc g sa (.ref b :: As) wc sz) (va_Qi post (mB g w' (va_A wc sz)) (va_A wc sz)) (yX g wx pE1 (va_A wc sz)) mc1 ms1 (va_A wc sz)) (cw : CallW R s args own CN index y bytes maxL ret wy rm mc1 ms1 N) (segs : List va_W) (isC isR : List Nat) (rest : List Value) (segs2 : S → List va_W) (ws2 : S → va_W) (hok : (isC ++ isR).isPerm (List.range segs.length) = true) (hws : ws = segs.flatten) (hC : pick segs isC = wc) (hC2 : ∀ u, pick (segs2 u) isC = w' u) (hR2 : ∀ u, pick (segs2 u) isR = pick segs isR) (hL2 : ∀ u, (segs2 u).length = segs.length) (hw2 : ∀ u, (segs2 u).flatten = ws2 u) (hq : wc[q0]? = some (cO b ci fs)) (hcq : vwCl[ci]? = some cq) (hCN : cq.1 = CN) (hlen : As.length = N) (hst : st = As.reverse ++ .ref b :: rest) (hroom : (rest.map fun v => v.category).sum ≤ 8) (hd : decode cc pc = .ok (.invokevirtual index, 3)) (hf : k + mc1 ≤ R.cells ∧ n + ms1 ≤ R.slots) (hno : ∀ E u, ¬ pE1 E u)
    (kk : ∀ (r : Int32) (u : S), post r u → Vx p l e R s m args below meth c g A nL Q (k + mc1) (n + ms1) (ws2 u) lv (pc + 3) (.int r :: rest)) : Vx p l e R s m args below meth c g A nL Q k n ws lv pc st := by
  intro H locs ls hP hD hS hL
  subst hst
  subst hws
  have hpm := pick_perm hok
  rw [hC] at hpm
  have hP0 := va_P_perm hpm hP
  have hD0 := va_D_perm hpm hD
  have hPc := va_P_left hP0
  have hDc := va_D_left hD0
  have hFc := va_free_left hD0 hS C.2.2.2.2.2.2
  refine vx_calli (vx_runV (As := As) (rest := rest) ⟨C.1, C.2.1, C.2.2.1, C.2.2.2.1, C.2.2.2.2.1⟩ (hM H.size) cw ⟨xPc_blind g sa _ wc H.size, hCN ▸ va_recv C.2.2.2.2.2.1.1 hPc hcq hq, fun U hU hW => ⟨rfl, by rw [hU], by rw [hU]; exact hPc, C.2.2.2.2.2.1.warm hW, hDc.weaken (fun _ _ _ _ => trivial), X.2.1.moved hW.alike, X.2.2.1.warm hW, by rw [hU]; exact (x_Z.moved hW.alike (X.2.2.2.1.kept hS.2.1)).narrow hFc⟩⟩ rfl hlen hL.1 rfl (lv_room hroom) hd hf) hS (fun q _ h => hFc q h) hFc (fun q _ h => hFc q h) (fun E ce q9 u t H1 locs1 ht hvm hw hB hz1 hk1 hS1 hce hcv hcl => ?_) (fun r u t H1 locs1 ht hvm hw hB hz1 hk1 hS1 => ?_)
  · exact absurd hB.1 (hno E u)
  · obtain ⟨hP1, hD1⟩ := hB
    rw [ht] at hP1
    obtain ⟨hP2, hD2⟩ := join_left hP0 hD0 hk1 hFc hP1 hD1
    have hpm2 := pick_perm (segs := segs2 u) (isC := isC) (isR := isR) (by rw [hL2 u]; exact hok)
    rw [hC2 u, hR2 u] at hpm2
    exact kk r u hw H1 locs1 ls (hw2 u ▸ va_P_perm hpm2.symm hP2) (hw2 u ▸ va_D_perm hpm2.symm hD2) hS1 hL
theorem v_cbadI (C : Cx p s m args c g A cc nL Ts own) (X : Tw s c A sa hh) {y : MethodName} {wy : List Cond} {rm : Room} {As : List Value} {wc : va_W} {post : Int32 → S → Prop} {bytes : ByteArray} {maxL N index : Nat} {ret : Option FieldType} {b q0 ci : Nat} {fs : List Value} {cq : vw_C} {CN : String} (hM : ∀ sz : Nat, vx_Met l y wy rm (xPc g sa (.ref b :: As) wc sz) (va_Qi post (mB g w' (va_A wc sz)) (va_A wc sz)) (yX g wx pE1 (va_A wc sz)) mc1 ms1 (va_A wc sz)) (cw : CallW R s args own CN index y bytes maxL ret wy rm mc1 ms1 N) (segs : List va_W) (isC isR : List Nat) (rest : List Value) (segs2 : SX → List va_W) (ws2 : SX → va_W) (hok : (isC ++ isR).isPerm (List.range segs.length) = true) (hws : ws = segs.flatten) (hC : pick segs isC = wc) (hC2 : ∀ u, pick (segs2 u) isC = wx u) (hR2 : ∀ u, pick (segs2 u) isR = pick segs isR) (hL2 : ∀ u, (segs2 u).length = segs.length) (hw2 : ∀ u, (segs2 u).flatten = ws2 u) (hq : wc[q0]? = some (cO b ci fs)) (hcq : vwCl[ci]? = some cq) (hCN : cq.1 = CN) (hlen : As.length = N) (hst : st = As.reverse ++ .ref b :: rest) (hroom : (rest.map fun v => v.category).sum ≤ 8) (hd : decode cc pc = .ok (.invokevirtual index, 3)) (hf : k + mc1 ≤ R.cells ∧ n + ms1 ≤ R.slots) (hno : ∀ r u, ¬ post r u) {E0 : String} (hE : ∀ E u, pE1 E u → E = E0) (hE0 : E0 ∈ exL) (pre : List ExceptionTableEntry) (x : ExceptionTableEntry) (suf : List ExceptionTableEntry) (hsplit : tableOf hh = pre ++ x :: suf) (hpass : ∀ z ∈ pre, z.catchType ≠ 0 ∧ ∃ nm : String, Cond.classLink own z.catchType nm ∈ Ts ∧ nm ∈ exL ∧ E0 ≠ nm) (hx : covers x pc = true) (h0 : x.catchType ≠ 0) (hlink : Cond.classLink own x.catchType E0 ∈ Ts) (hpc : Nat) (hhp : x.handlerPc = hpc)
    (kk : ∀ (q : Nat) (u : SX), pE1 E0 u → Vx p l e R s m args below meth c g A nL Q (k + mc1) (n + ms1) (ws2 u) lv hpc [.ref q]) : Vx p l e R s m args below meth c g A nL Q k n ws lv pc st := by
  intro H locs ls hP hD hS hL
  subst hst
  subst hws
  have hpm := pick_perm hok
  rw [hC] at hpm
  have hP0 := va_P_perm hpm hP
  have hD0 := va_D_perm hpm hD
  have hPc := va_P_left hP0
  have hDc := va_D_left hD0
  have hFc := va_free_left hD0 hS C.2.2.2.2.2.2
  refine vx_calli (vx_runV (As := As) (rest := rest) ⟨C.1, C.2.1, C.2.2.1, C.2.2.2.1, C.2.2.2.2.1⟩ (hM H.size) cw ⟨xPc_blind g sa _ wc H.size, hCN ▸ va_recv C.2.2.2.2.2.1.1 hPc hcq hq, fun U hU hW => ⟨rfl, by rw [hU], by rw [hU]; exact hPc, C.2.2.2.2.2.1.warm hW, hDc.weaken (fun _ _ _ _ => trivial), X.2.1.moved hW.alike, X.2.2.1.warm hW, by rw [hU]; exact (x_Z.moved hW.alike (X.2.2.2.1.kept hS.2.1)).narrow hFc⟩⟩ rfl hlen hL.1 rfl (lv_room hroom) hd hf) hS (fun q _ h => hFc q h) hFc (fun q _ h => hFc q h) (fun E ce q9 u t H1 locs1 ht hvm hw hB hz1 hk1 hS1 hce hcv hcl => ?_) (fun r u t H1 locs1 ht hvm hw hB hz1 hk1 hS1 => ?_)
  · obtain ⟨hE1, hP1, hD1⟩ := hB
    have e0 := hE E u hE1
    subst e0
    rw [ht] at hP1
    obtain ⟨hP2, hD2⟩ := join_left hP0 hD0 hk1 hFc hP1 hD1
    have hpm2 := pick_perm (segs := segs2 u) (isC := isC) (isR := isR) (by rw [hL2 u]; exact hok)
    rw [hC2 u, hR2 u] at hpm2
    subst hhp
    exact vx_catch C.2.2.2.1 pre x suf (X.1.trans hsplit) (fun z hz => Or.inr ⟨(hpass z hz).1, by obtain ⟨-, nm, h1, h2, h3⟩ := hpass z hz; exact ⟨nm, C.2.2.2.2.1 _ h1, X.2.2.2.2 E hE0 nm h2 h3⟩⟩) hx h0 (C.2.2.2.2.1 _ hlink) (X.2.1.cast E hE0) hce hcv hcl (kk q9 u hE1 H1 locs1 ls (hw2 u ▸ va_P_perm hpm2.symm hP2) (hw2 u ▸ va_D_perm hpm2.symm hD2) hS1 hL)
  · exact absurd hw (hno r u)
theorem v_cokL (C : Cx p s m args c g A cc nL Ts own) (X : Tw s c A sa hh) {y : MethodName} {wy : List Cond} {rm : Room} {As : List Value} {wc : va_W} {post : Int64 → S → Prop} {bytes : ByteArray} {maxL N index : Nat} {ret : Option FieldType} {b q0 ci : Nat} {fs : List Value} {cq : vw_C} {CN : String} (hM : ∀ sz : Nat, vx_Met l y wy rm (xPc g sa (.ref b :: As) wc sz) (va_Ql post (mB g w' (va_A wc sz)) (va_A wc sz)) (yX g wx pE1 (va_A wc sz)) mc1 ms1 (va_A wc sz)) (cw : CallW R s args own CN index y bytes maxL ret wy rm mc1 ms1 N) (segs : List va_W) (isC isR : List Nat) (rest : List Value) (segs2 : S → List va_W) (ws2 : S → va_W) (hok : (isC ++ isR).isPerm (List.range segs.length) = true) (hws : ws = segs.flatten) (hC : pick segs isC = wc) (hC2 : ∀ u, pick (segs2 u) isC = w' u) (hR2 : ∀ u, pick (segs2 u) isR = pick segs isR) (hL2 : ∀ u, (segs2 u).length = segs.length) (hw2 : ∀ u, (segs2 u).flatten = ws2 u) (hq : wc[q0]? = some (cO b ci fs)) (hcq : vwCl[ci]? = some cq) (hCN : cq.1 = CN) (hlen : As.length = N) (hst : st = As.reverse ++ .ref b :: rest) (hroom : (rest.map fun v => v.category).sum ≤ 8) (hd : decode cc pc = .ok (.invokevirtual index, 3)) (hf : k + mc1 ≤ R.cells ∧ n + ms1 ≤ R.slots) (hno : ∀ E u, ¬ pE1 E u)
    (kk : ∀ (r : Int64) (u : S), post r u → Vx p l e R s m args below meth c g A nL Q (k + mc1) (n + ms1) (ws2 u) lv (pc + 3) (.long r :: rest)) : Vx p l e R s m args below meth c g A nL Q k n ws lv pc st := by
  intro H locs ls hP hD hS hL
  subst hst
  subst hws
  have hpm := pick_perm hok
  rw [hC] at hpm
  have hP0 := va_P_perm hpm hP
  have hD0 := va_D_perm hpm hD
  have hPc := va_P_left hP0
  have hDc := va_D_left hD0
  have hFc := va_free_left hD0 hS C.2.2.2.2.2.2
  refine vx_calll (vx_runV (As := As) (rest := rest) ⟨C.1, C.2.1, C.2.2.1, C.2.2.2.1, C.2.2.2.2.1⟩ (hM H.size) cw ⟨xPc_blind g sa _ wc H.size, hCN ▸ va_recv C.2.2.2.2.2.1.1 hPc hcq hq, fun U hU hW => ⟨rfl, by rw [hU], by rw [hU]; exact hPc, C.2.2.2.2.2.1.warm hW, hDc.weaken (fun _ _ _ _ => trivial), X.2.1.moved hW.alike, X.2.2.1.warm hW, by rw [hU]; exact (x_Z.moved hW.alike (X.2.2.2.1.kept hS.2.1)).narrow hFc⟩⟩ rfl hlen hL.1 rfl (lv_room hroom) hd hf) hS (fun q _ h => hFc q h) hFc (fun q _ h => hFc q h) (fun E ce q9 u t H1 locs1 ht hvm hw hB hz1 hk1 hS1 hce hcv hcl => ?_) (fun r u t H1 locs1 ht hvm hw hB hz1 hk1 hS1 => ?_)
  · exact absurd hB.1 (hno E u)
  · obtain ⟨hP1, hD1⟩ := hB
    rw [ht] at hP1
    obtain ⟨hP2, hD2⟩ := join_left hP0 hD0 hk1 hFc hP1 hD1
    have hpm2 := pick_perm (segs := segs2 u) (isC := isC) (isR := isR) (by rw [hL2 u]; exact hok)
    rw [hC2 u, hR2 u] at hpm2
    exact kk r u hw H1 locs1 ls (hw2 u ▸ va_P_perm hpm2.symm hP2) (hw2 u ▸ va_D_perm hpm2.symm hD2) hS1 hL
theorem v_cbadL (C : Cx p s m args c g A cc nL Ts own) (X : Tw s c A sa hh) {y : MethodName} {wy : List Cond} {rm : Room} {As : List Value} {wc : va_W} {post : Int64 → S → Prop} {bytes : ByteArray} {maxL N index : Nat} {ret : Option FieldType} {b q0 ci : Nat} {fs : List Value} {cq : vw_C} {CN : String} (hM : ∀ sz : Nat, vx_Met l y wy rm (xPc g sa (.ref b :: As) wc sz) (va_Ql post (mB g w' (va_A wc sz)) (va_A wc sz)) (yX g wx pE1 (va_A wc sz)) mc1 ms1 (va_A wc sz)) (cw : CallW R s args own CN index y bytes maxL ret wy rm mc1 ms1 N) (segs : List va_W) (isC isR : List Nat) (rest : List Value) (segs2 : SX → List va_W) (ws2 : SX → va_W) (hok : (isC ++ isR).isPerm (List.range segs.length) = true) (hws : ws = segs.flatten) (hC : pick segs isC = wc) (hC2 : ∀ u, pick (segs2 u) isC = wx u) (hR2 : ∀ u, pick (segs2 u) isR = pick segs isR) (hL2 : ∀ u, (segs2 u).length = segs.length) (hw2 : ∀ u, (segs2 u).flatten = ws2 u) (hq : wc[q0]? = some (cO b ci fs)) (hcq : vwCl[ci]? = some cq) (hCN : cq.1 = CN) (hlen : As.length = N) (hst : st = As.reverse ++ .ref b :: rest) (hroom : (rest.map fun v => v.category).sum ≤ 8) (hd : decode cc pc = .ok (.invokevirtual index, 3)) (hf : k + mc1 ≤ R.cells ∧ n + ms1 ≤ R.slots) (hno : ∀ r u, ¬ post r u) {E0 : String} (hE : ∀ E u, pE1 E u → E = E0) (hE0 : E0 ∈ exL) (pre : List ExceptionTableEntry) (x : ExceptionTableEntry) (suf : List ExceptionTableEntry) (hsplit : tableOf hh = pre ++ x :: suf) (hpass : ∀ z ∈ pre, z.catchType ≠ 0 ∧ ∃ nm : String, Cond.classLink own z.catchType nm ∈ Ts ∧ nm ∈ exL ∧ E0 ≠ nm) (hx : covers x pc = true) (h0 : x.catchType ≠ 0) (hlink : Cond.classLink own x.catchType E0 ∈ Ts) (hpc : Nat) (hhp : x.handlerPc = hpc)
    (kk : ∀ (q : Nat) (u : SX), pE1 E0 u → Vx p l e R s m args below meth c g A nL Q (k + mc1) (n + ms1) (ws2 u) lv hpc [.ref q]) : Vx p l e R s m args below meth c g A nL Q k n ws lv pc st := by
  intro H locs ls hP hD hS hL
  subst hst
  subst hws
  have hpm := pick_perm hok
  rw [hC] at hpm
  have hP0 := va_P_perm hpm hP
  have hD0 := va_D_perm hpm hD
  have hPc := va_P_left hP0
  have hDc := va_D_left hD0
  have hFc := va_free_left hD0 hS C.2.2.2.2.2.2
  refine vx_calll (vx_runV (As := As) (rest := rest) ⟨C.1, C.2.1, C.2.2.1, C.2.2.2.1, C.2.2.2.2.1⟩ (hM H.size) cw ⟨xPc_blind g sa _ wc H.size, hCN ▸ va_recv C.2.2.2.2.2.1.1 hPc hcq hq, fun U hU hW => ⟨rfl, by rw [hU], by rw [hU]; exact hPc, C.2.2.2.2.2.1.warm hW, hDc.weaken (fun _ _ _ _ => trivial), X.2.1.moved hW.alike, X.2.2.1.warm hW, by rw [hU]; exact (x_Z.moved hW.alike (X.2.2.2.1.kept hS.2.1)).narrow hFc⟩⟩ rfl hlen hL.1 rfl (lv_room hroom) hd hf) hS (fun q _ h => hFc q h) hFc (fun q _ h => hFc q h) (fun E ce q9 u t H1 locs1 ht hvm hw hB hz1 hk1 hS1 hce hcv hcl => ?_) (fun r u t H1 locs1 ht hvm hw hB hz1 hk1 hS1 => ?_)
  · obtain ⟨hE1, hP1, hD1⟩ := hB
    have e0 := hE E u hE1
    subst e0
    rw [ht] at hP1
    obtain ⟨hP2, hD2⟩ := join_left hP0 hD0 hk1 hFc hP1 hD1
    have hpm2 := pick_perm (segs := segs2 u) (isC := isC) (isR := isR) (by rw [hL2 u]; exact hok)
    rw [hC2 u, hR2 u] at hpm2
    subst hhp
    exact vx_catch C.2.2.2.1 pre x suf (X.1.trans hsplit) (fun z hz => Or.inr ⟨(hpass z hz).1, by obtain ⟨-, nm, h1, h2, h3⟩ := hpass z hz; exact ⟨nm, C.2.2.2.2.1 _ h1, X.2.2.2.2 E hE0 nm h2 h3⟩⟩) hx h0 (C.2.2.2.2.1 _ hlink) (X.2.1.cast E hE0) hce hcv hcl (kk q9 u hE1 H1 locs1 ls (hw2 u ▸ va_P_perm hpm2.symm hP2) (hw2 u ▸ va_D_perm hpm2.symm hD2) hS1 hL)
  · exact absurd hw (hno r u)
theorem v_cokF (C : Cx p s m args c g A cc nL Ts own) (X : Tw s c A sa hh) {y : MethodName} {wy : List Cond} {rm : Room} {As : List Value} {wc : va_W} {post : UInt32 → S → Prop} {bytes : ByteArray} {maxL N index : Nat} {ret : Option FieldType} {b q0 ci : Nat} {fs : List Value} {cq : vw_C} {CN : String} (hM : ∀ sz : Nat, vx_Met l y wy rm (xPc g sa (.ref b :: As) wc sz) (va_Qf post (mB g w' (va_A wc sz)) (va_A wc sz)) (yX g wx pE1 (va_A wc sz)) mc1 ms1 (va_A wc sz)) (cw : CallW R s args own CN index y bytes maxL ret wy rm mc1 ms1 N) (segs : List va_W) (isC isR : List Nat) (rest : List Value) (segs2 : S → List va_W) (ws2 : S → va_W) (hok : (isC ++ isR).isPerm (List.range segs.length) = true) (hws : ws = segs.flatten) (hC : pick segs isC = wc) (hC2 : ∀ u, pick (segs2 u) isC = w' u) (hR2 : ∀ u, pick (segs2 u) isR = pick segs isR) (hL2 : ∀ u, (segs2 u).length = segs.length) (hw2 : ∀ u, (segs2 u).flatten = ws2 u) (hq : wc[q0]? = some (cO b ci fs)) (hcq : vwCl[ci]? = some cq) (hCN : cq.1 = CN) (hlen : As.length = N) (hst : st = As.reverse ++ .ref b :: rest) (hroom : (rest.map fun v => v.category).sum ≤ 8) (hd : decode cc pc = .ok (.invokevirtual index, 3)) (hf : k + mc1 ≤ R.cells ∧ n + ms1 ≤ R.slots) (hno : ∀ E u, ¬ pE1 E u)
    (kk : ∀ (r : UInt32) (u : S), post r u → Vx p l e R s m args below meth c g A nL Q (k + mc1) (n + ms1) (ws2 u) lv (pc + 3) (.float r :: rest)) : Vx p l e R s m args below meth c g A nL Q k n ws lv pc st := by
  intro H locs ls hP hD hS hL
  subst hst
  subst hws
  have hpm := pick_perm hok
  rw [hC] at hpm
  have hP0 := va_P_perm hpm hP
  have hD0 := va_D_perm hpm hD
  have hPc := va_P_left hP0
  have hDc := va_D_left hD0
  have hFc := va_free_left hD0 hS C.2.2.2.2.2.2
  refine vx_callf (vx_runV (As := As) (rest := rest) ⟨C.1, C.2.1, C.2.2.1, C.2.2.2.1, C.2.2.2.2.1⟩ (hM H.size) cw ⟨xPc_blind g sa _ wc H.size, hCN ▸ va_recv C.2.2.2.2.2.1.1 hPc hcq hq, fun U hU hW => ⟨rfl, by rw [hU], by rw [hU]; exact hPc, C.2.2.2.2.2.1.warm hW, hDc.weaken (fun _ _ _ _ => trivial), X.2.1.moved hW.alike, X.2.2.1.warm hW, by rw [hU]; exact (x_Z.moved hW.alike (X.2.2.2.1.kept hS.2.1)).narrow hFc⟩⟩ rfl hlen hL.1 rfl (lv_room hroom) hd hf) hS (fun q _ h => hFc q h) hFc (fun q _ h => hFc q h) (fun E ce q9 u t H1 locs1 ht hvm hw hB hz1 hk1 hS1 hce hcv hcl => ?_) (fun r u t H1 locs1 ht hvm hw hB hz1 hk1 hS1 => ?_)
  · exact absurd hB.1 (hno E u)
  · obtain ⟨hP1, hD1⟩ := hB
    rw [ht] at hP1
    obtain ⟨hP2, hD2⟩ := join_left hP0 hD0 hk1 hFc hP1 hD1
    have hpm2 := pick_perm (segs := segs2 u) (isC := isC) (isR := isR) (by rw [hL2 u]; exact hok)
    rw [hC2 u, hR2 u] at hpm2
    exact kk r u hw H1 locs1 ls (hw2 u ▸ va_P_perm hpm2.symm hP2) (hw2 u ▸ va_D_perm hpm2.symm hD2) hS1 hL
theorem v_cbadF (C : Cx p s m args c g A cc nL Ts own) (X : Tw s c A sa hh) {y : MethodName} {wy : List Cond} {rm : Room} {As : List Value} {wc : va_W} {post : UInt32 → S → Prop} {bytes : ByteArray} {maxL N index : Nat} {ret : Option FieldType} {b q0 ci : Nat} {fs : List Value} {cq : vw_C} {CN : String} (hM : ∀ sz : Nat, vx_Met l y wy rm (xPc g sa (.ref b :: As) wc sz) (va_Qf post (mB g w' (va_A wc sz)) (va_A wc sz)) (yX g wx pE1 (va_A wc sz)) mc1 ms1 (va_A wc sz)) (cw : CallW R s args own CN index y bytes maxL ret wy rm mc1 ms1 N) (segs : List va_W) (isC isR : List Nat) (rest : List Value) (segs2 : SX → List va_W) (ws2 : SX → va_W) (hok : (isC ++ isR).isPerm (List.range segs.length) = true) (hws : ws = segs.flatten) (hC : pick segs isC = wc) (hC2 : ∀ u, pick (segs2 u) isC = wx u) (hR2 : ∀ u, pick (segs2 u) isR = pick segs isR) (hL2 : ∀ u, (segs2 u).length = segs.length) (hw2 : ∀ u, (segs2 u).flatten = ws2 u) (hq : wc[q0]? = some (cO b ci fs)) (hcq : vwCl[ci]? = some cq) (hCN : cq.1 = CN) (hlen : As.length = N) (hst : st = As.reverse ++ .ref b :: rest) (hroom : (rest.map fun v => v.category).sum ≤ 8) (hd : decode cc pc = .ok (.invokevirtual index, 3)) (hf : k + mc1 ≤ R.cells ∧ n + ms1 ≤ R.slots) (hno : ∀ r u, ¬ post r u) {E0 : String} (hE : ∀ E u, pE1 E u → E = E0) (hE0 : E0 ∈ exL) (pre : List ExceptionTableEntry) (x : ExceptionTableEntry) (suf : List ExceptionTableEntry) (hsplit : tableOf hh = pre ++ x :: suf) (hpass : ∀ z ∈ pre, z.catchType ≠ 0 ∧ ∃ nm : String, Cond.classLink own z.catchType nm ∈ Ts ∧ nm ∈ exL ∧ E0 ≠ nm) (hx : covers x pc = true) (h0 : x.catchType ≠ 0) (hlink : Cond.classLink own x.catchType E0 ∈ Ts) (hpc : Nat) (hhp : x.handlerPc = hpc)
    (kk : ∀ (q : Nat) (u : SX), pE1 E0 u → Vx p l e R s m args below meth c g A nL Q (k + mc1) (n + ms1) (ws2 u) lv hpc [.ref q]) : Vx p l e R s m args below meth c g A nL Q k n ws lv pc st := by
  intro H locs ls hP hD hS hL
  subst hst
  subst hws
  have hpm := pick_perm hok
  rw [hC] at hpm
  have hP0 := va_P_perm hpm hP
  have hD0 := va_D_perm hpm hD
  have hPc := va_P_left hP0
  have hDc := va_D_left hD0
  have hFc := va_free_left hD0 hS C.2.2.2.2.2.2
  refine vx_callf (vx_runV (As := As) (rest := rest) ⟨C.1, C.2.1, C.2.2.1, C.2.2.2.1, C.2.2.2.2.1⟩ (hM H.size) cw ⟨xPc_blind g sa _ wc H.size, hCN ▸ va_recv C.2.2.2.2.2.1.1 hPc hcq hq, fun U hU hW => ⟨rfl, by rw [hU], by rw [hU]; exact hPc, C.2.2.2.2.2.1.warm hW, hDc.weaken (fun _ _ _ _ => trivial), X.2.1.moved hW.alike, X.2.2.1.warm hW, by rw [hU]; exact (x_Z.moved hW.alike (X.2.2.2.1.kept hS.2.1)).narrow hFc⟩⟩ rfl hlen hL.1 rfl (lv_room hroom) hd hf) hS (fun q _ h => hFc q h) hFc (fun q _ h => hFc q h) (fun E ce q9 u t H1 locs1 ht hvm hw hB hz1 hk1 hS1 hce hcv hcl => ?_) (fun r u t H1 locs1 ht hvm hw hB hz1 hk1 hS1 => ?_)
  · obtain ⟨hE1, hP1, hD1⟩ := hB
    have e0 := hE E u hE1
    subst e0
    rw [ht] at hP1
    obtain ⟨hP2, hD2⟩ := join_left hP0 hD0 hk1 hFc hP1 hD1
    have hpm2 := pick_perm (segs := segs2 u) (isC := isC) (isR := isR) (by rw [hL2 u]; exact hok)
    rw [hC2 u, hR2 u] at hpm2
    subst hhp
    exact vx_catch C.2.2.2.1 pre x suf (X.1.trans hsplit) (fun z hz => Or.inr ⟨(hpass z hz).1, by obtain ⟨-, nm, h1, h2, h3⟩ := hpass z hz; exact ⟨nm, C.2.2.2.2.1 _ h1, X.2.2.2.2 E hE0 nm h2 h3⟩⟩) hx h0 (C.2.2.2.2.1 _ hlink) (X.2.1.cast E hE0) hce hcv hcl (kk q9 u hE1 H1 locs1 ls (hw2 u ▸ va_P_perm hpm2.symm hP2) (hw2 u ▸ va_D_perm hpm2.symm hD2) hS1 hL)
  · exact absurd hw (hno r u)
end WC
