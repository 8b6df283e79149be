/-! methods that throw: what they ask beside the world, their contracts, the throw and the call -/
abbrev exN : List String := ["java/lang/RuntimeException", "java/lang/Exception"]
abbrev eIO : String := "java/lang/IndexOutOfBoundsException"
abbrev eIA : String := "java/lang/IllegalArgumentException"
abbrev eIS : String := "java/lang/IllegalStateException"
abbrev eUO : String := "java/lang/UnsupportedOperationException"
abbrev eNE : String := "java/util/NoSuchElementException"
def xTx : List (Nat × String) := [(72, "no such kind"), (82, "no more items"), (92, "no more branches"), (97, "no such value"), (120, "the item holds nothing"), (126, "the item holds no conflict"), (137, "the tag keeps no commit"), (146, "no such parent"), (169, "no item holds a conflict"), (177, "the other head is an ancestor"), (187, "the commit does not have one parent"), (192, "no such quote can be told"), (194, "no more quotes"), (201, "no such quote"), (211, "there are no items"), (213, "no such item"), (215, "no such branch"), (217, "no such commit"), (219, "no such tag"), (221, "no more commits"), (226, "no such side")]
def x_S (sa : Nat → Nat) (U : State) : Prop := ∀ (i : Nat) (q : Nat × String), xTx[i]? = some q → vk_R RX5 q.1 q.2 (sa i) U
def x_N (U : State) : Prop := (Cond.declares (Bundle.initS "java/lang/RuntimeException")).before #[] U = true ∧ (Cond.declares (Bundle.initS "java/lang/Exception")).before #[] U = true ∧ (Cond.declares (Bundle.initS Bundle.tN)).before #[] U = true ∧ (Cond.castable eIO eIO).before #[] U = true ∧ (Cond.castable eIA eIA).before #[] U = true ∧ (Cond.castable eIS eIS).before #[] U = true ∧ (Cond.castable eUO eUO).before #[] U = true ∧ (Cond.castable eNE eNE).before #[] U = true
def xNw : List Cond := [.declares (Bundle.initS "java/lang/RuntimeException"), .declares (Bundle.initS "java/lang/Exception"), .declares (Bundle.initS Bundle.tN), .castable eIO eIO, .castable eIA eIA, .castable eIS eIS, .castable eUO eUO, .castable eNE eNE]
def x_Z (A : Nat → Prop) (U : State) (H : Heap) : Prop := vx_Zq Bundle.tN "UNASSIGNED_STACK" Bundle.steD A U H ∧ vx_Zq Bundle.tN "SUPPRESSED_SENTINEL" Bundle.listD A U H
theorem x_tr {u U : State} {w : Cond} (hc : w.onTables = true) (h : w.before #[] (u.setVm U.vm) = true) : w.before #[] U = true := by
  have e := Cond.onTables_vm (A := #[]) (A' := #[]) (U := u) (U' := U) U.vm w hc
  have hU : U.setVm U.vm = U := rfl
  rw [hU] at e
  rw [← e]
  exact h
theorem x_dec {u U : State} (hvm : u.vm.Alike U.vm) {x : MethodName} (h : (Cond.declares x).before #[] u = true) : (Cond.declares x).before #[] U = true := x_tr rfl (by rw [Cond.declares_setVm hvm]; exact h)
theorem x_cas {u U : State} (hvm : u.vm.Alike U.vm) {a b : String} (h : (Cond.castable a b).before #[] u = true) : (Cond.castable a b).before #[] U = true := x_tr rfl (by rw [Cond.castable_setVm hvm]; exact h)
theorem x_N.moved {u U : State} (hvm : u.vm.Alike U.vm) (h : x_N u) : x_N U := ⟨x_dec hvm h.1, x_dec hvm h.2.1, x_dec hvm h.2.2.1, x_cas hvm h.2.2.2.1, x_cas hvm h.2.2.2.2.1, x_cas hvm h.2.2.2.2.2.1, x_cas hvm h.2.2.2.2.2.2.1, x_cas hvm h.2.2.2.2.2.2.2⟩
theorem x_N.all {s : State} {args : Array Value} (h : x_N s) : ∀ w ∈ xNw, w.before args s = true := by
  obtain ⟨h1, h2, h3, h4, h5, h6, h7, h8⟩ := h
  exact List.forall_mem_cons.mpr ⟨va_any rfl h1, List.forall_mem_cons.mpr ⟨va_any rfl h2, List.forall_mem_cons.mpr ⟨va_any rfl h3, List.forall_mem_cons.mpr ⟨va_any rfl h4, List.forall_mem_cons.mpr ⟨va_any rfl h5, List.forall_mem_cons.mpr ⟨va_any rfl h6, List.forall_mem_cons.mpr ⟨va_any rfl h7, List.forall_mem_cons.mpr ⟨va_any rfl h8, fun _ h => nomatch h⟩⟩⟩⟩⟩⟩⟩⟩
theorem x_S.warm {sa : Nat → Nat} {s U : State} (hW : s.WarmedH U.vm) (h : x_S sa s) : x_S sa U := fun i q hq => (h i q hq).warm hW
theorem x_S.same {sa : Nat → Nat} {u U : State} (hvm : U.vm = u.vm) (h : x_S sa u) : x_S sa U := fun i q hq => (h i q hq).same hvm
theorem x_Z.moved {A : Nat → Prop} {u U : State} {H : Heap} (hvm : u.vm.Alike U.vm) (h : x_Z A u H) : x_Z A U H := ⟨h.1.moved hvm, h.2.moved hvm⟩
theorem x_Z.kept {A : Nat → Prop} {U : State} {H H1 : Heap} (h : x_Z A U H) (hq : ∀ a : Nat, a < H.size → ¬ A a → H1[a]? = H[a]?) : x_Z A U H1 := ⟨h.1.kept hq, h.2.kept hq⟩
theorem x_Z.narrow {A B : Nat → Prop} {U : State} {H : Heap} (h : x_Z A U H) (hAB : ∀ q, B q → A q) : x_Z B U H := ⟨h.1.narrow hAB, h.2.narrow hAB⟩
def Tx (l : Launch) (s : State) (c : Code) (A : Nat → Prop) (sa : Nat → Nat) : Prop := l.stackTraces = false ∧ (∀ x ∈ c.exceptionTable.toList, False) ∧ x_N s ∧ x_S sa s ∧ x_Z A s s.heap
def xX (g : vG) (w : va_W) (pE : String → Prop) (A : Nat → Prop) : String → State → State → Prop := vx_X (fun _ : Unit => True) (fun E _ t => pE E ∧ va_P g.1 vwCl w t.heap ∧ va_D A w) A
def xPc (g : vG) (sa : Nat → Nat) (As : List Value) (w : va_W) (sz : Nat) : Array Value → State → Prop := va_Pc As (fun U => U.heap.size = sz ∧ va_P g.1 vwCl w U.heap ∧ v_K g U ∧ va_D (fun _ => True) w ∧ x_N U ∧ x_S sa U ∧ x_Z (va_A w sz) U U.heap)
theorem xPc_blind (g : vG) (sa : Nat → Nat) (As : List Value) (w : va_W) (sz : Nat) : FrameBlind (xPc g sa As w sz) := fun a U gg mk h => ⟨h.1, h.2.1, h.2.2.1, h.2.2.2.1.same rfl, h.2.2.2.2.1, h.2.2.2.2.2.1.moved (Vm.Alike.refl U.vm), h.2.2.2.2.2.2.1.same rfl, x_Z.moved (Vm.Alike.refl U.vm) h.2.2.2.2.2.2.2⟩
/-- what the tables decide of an exception class -/
def xG (ik ic : Nat) (cls : String) : Prop := Bundle.fit cls = true ∧ (∀ w ∈ (vx_atS RX5 ic cls exN).filter (fun w => !goodWord w), w ∈ xNw) ∧ ∀ w ∈ Cond.classLink RX5 ik cls :: Cond.initialized cls :: vx_atS RX5 ic cls exN, vx_ot w = true
theorem xG_IO : xG 199 203 eIO := ⟨by decide +kernel, by decide +kernel, by decide +kernel⟩
theorem xG_IA : xG 70 74 eIA := ⟨by decide +kernel, by decide +kernel, by decide +kernel⟩
theorem xG_IS : xG 80 84 eIS := ⟨by decide +kernel, by decide +kernel, by decide +kernel⟩
theorem xG_UO : xG 118 122 eUO := ⟨by decide +kernel, by decide +kernel, by decide +kernel⟩
theorem xG_NE : xG 135 139 eNE := ⟨by decide +kernel, by decide +kernel, by decide +kernel⟩
theorem exN_fit : ∀ n ∈ exN, Bundle.fit n = true := by decide +kernel
section XD
variable {S : Type}
def xI (l : Launch) (g : vG) (sa : Nat → Nat) (y : MethodName) (wy : List Cond) (rm : Room) (As : List Value) (w : va_W) (w' : S → va_W) (post : Int32 → S → Prop) (pE : String → Prop) (mc ms : Nat) : Prop := ∀ sz : Nat, vx_Met l y wy rm (xPc g sa As w sz) (va_Qi post (mB g w' (va_A w sz)) (va_A w sz)) (xX g w pE (va_A w sz)) mc ms (va_A w sz)
def xL (l : Launch) (g : vG) (sa : Nat → Nat) (y : MethodName) (wy : List Cond) (rm : Room) (As : List Value) (w : va_W) (w' : S → va_W) (post : Int64 → S → Prop) (pE : String → Prop) (mc ms : Nat) : Prop := ∀ sz : Nat, vx_Met l y wy rm (xPc g sa As w sz) (va_Ql post (mB g w' (va_A w sz)) (va_A w sz)) (xX g w pE (va_A w sz)) mc ms (va_A w sz)
def xF (l : Launch) (g : vG) (sa : Nat → Nat) (y : MethodName) (wy : List Cond) (rm : Room) (As : List Value) (w : va_W) (w' : S → va_W) (post : UInt32 → S → Prop) (pE : String → Prop) (mc ms : Nat) : Prop := ∀ sz : Nat, vx_Met l y wy rm (xPc g sa As w sz) (va_Qf post (mB g w' (va_A w sz)) (va_A w sz)) (xX g w pE (va_A w sz)) mc ms (va_A w sz)
def xV (l : Launch) (g : vG) (sa : Nat → Nat) (y : MethodName) (wy : List Cond) (rm : Room) (As : List Value) (w : va_W) (w' : S → va_W) (post : S → Prop) (pE : String → Prop) (mc ms : Nat) : Prop := ∀ sz : Nat, vx_Met l y wy rm (xPc g sa As w sz) (va_Qv post (mB g w' (va_A w sz)) (va_A w sz)) (xX g w pE (va_A w sz)) mc ms (va_A w sz)
end XD
theorem x_of {l : Launch} {g : vG} {sa : Nat → Nat} {y : MethodName} {wy wy' : List Cond} {rm : Room} {As : List Value} {w : va_W} {Qc : (Nat → Prop) → Array Value → State → Outcome → State → Prop} {pE : String → Prop} {mc ms : Nat} {cc : ByteArray} {maxL : Nat} {ret : Option FieldType} {own : String} (hst : l.stackTraces = false) (hy : plainName y.cls = true) (hw : wy = Cond.code y cc maxL ret :: wy') (ho : y.cls = own) (hsz : (lg_sl As).length ≤ maxL)
    (body : ∀ (p : Program) (e : Env) (s : State) (m : MethodId) (args : Array Value) (below : List Frame) (meth : Method) (c : Code) (A : Nat → Prop), Cx p s m args c g A cc maxL wy own → Tx l s c A sa → meth.sig.returnType = ret → meth.locks = false → Vx p l e rm s m args below meth c g A maxL (vx_MQ below (Qc A) (xX g w pE A) args s mc ms A) 0 0 w (lv_args 0 As) 0 []) : ∀ sz : Nat, vx_Met l y wy rm (xPc g sa As w sz) (Qc (va_A w sz)) (xX g w pE (va_A w sz)) mc ms (va_A w sz) := by
  intro sz
  refine vx_ofW (cc := cc) (maxL := maxL) (ret := ret) hy hw ?_
  intro p e s m args below meth c s₁ B hml htb hv
  obtain ⟨rfl, hsz1, hP, hK, hD0, hN, hS, hZ⟩ := hv
  subst hsz1
  have hD := hD0.self (sz := s.heap.size)
  have hown : s.vm.findClass own = some m.cls := ho ▸ findClass_of_methodNamed B.named
  generalize hAe : va_A w s.heap.size = A at hD hZ ⊢
  have hA : ∀ q : Nat, s.heap.size ≤ q → A q := fun q h => by rw [← hAe]; exact Or.inr h
  rw [lg_entry_eq]
  exact body p e s m _ below meth c A ⟨B.exec, B.bytes, hml, hown, atoms_spec (ws := wy) B.pre, hK, hA⟩ ⟨hst, htb, hN, hS, hZ⟩ B.returns B.notSynchronized s.heap [] _ hP hD va_S.rf (lv_entry As hsz)
section XR
variable {p : Program} {l : Launch} {e : Env} {R : Room} {s : State} {m : MethodId} {args : Array Value} {below : List Frame} {meth : Method} {c : Code} {g : vG} {A : Nat → Prop} {nL : Nat} {Q : State → Prop} {k n : Nat} {ws : va_W} {lv : List (Nat × Value)} {pc : Nat} {st : List Value} {cc : ByteArray} {Ts : List Cond} {own : String} {sa : Nat → Nat} {mc ms : Nat} {Qc : Array Value → State → Outcome → State → Prop} {XC : String → State → State → Prop} {w : va_W} {pE : String → Prop}
theorem v_xr (kk : Vx p l e R s m args below meth c g A nL (MQ below Qc args s mc ms A) k n ws lv pc st) : Vx p l e R s m args below meth c g A nL (vx_MQ below Qc XC args s mc ms A) k n ws lv pc st := fun H locs ls hP hD hS hL => by
  intro T hT X
  obtain ⟨t, a1, o, b1, b2, b3, b4⟩ := kk H locs ls hP hD hS hL T hT X
  exact ⟨t, a1, o, b1, b2, Or.inl ⟨b3, b4⟩⟩
theorem v_throw (C : Cx p s m args c g A cc nL Ts RX5) (X : Tx l s c A sa) {ik is ic : Nat} {cls text : String} (i : Nat) (hG : xG ik ic cls) (hi : xTx[i]? = some (is, text)) (e1 : Cond.classLink RX5 ik cls ∈ Ts) (e2 : Cond.initialized cls ∈ Ts) (e3 : ∀ w ∈ (vx_atS RX5 ic cls exN).filter goodWord, w ∈ Ts) (hlk : meth.locks = false)
    (d0 : decode cc pc = .ok (.new ik, 3)) (d3 : decode cc (pc + 3) = .ok (.dup, 1)) (d4 : decode cc (pc + 4) = .ok (.ldc is, 2)) (d6 : decode cc (pc + 6) = .ok (.invokespecial ic, 3)) (d9 : decode cc (pc + 9) = .ok (.athrow, 1))
    (hfr : 5 < R.frames) (hlo : (st.map fun v => v.category).sum + 82 ≤ R.locals) (hcl : k + 1 ≤ R.cells) (hsl : n + 6 ≤ R.slots) (hk : k + 1 ≤ mc) (hn : n + 6 ≤ ms) (hw : ws = w) (hE : pE cls) :
    Vx p l e R s m args below meth c g A nL (vx_MQ below Qc (xX g w pE A) args s mc ms A) k n ws lv pc st := fun H locs ls hP hD hS hL => by
  have hts := C.2.2.2.2.1
  subst hw
  refine vx_throwS C.1 C.2.1 X.1 C.2.2.2.1 hG.1 exN_fit (hts _ e1) (hts _ e2) (X.2.2.2.1 i _ hi) (vx_hat (fun w hw => hts w (e3 w hw)) hG.2.1 X.2.2.1.all) hG.2.2 X.2.2.2.2.1 X.2.2.2.2.2 hS (hL.1.trans C.2.2.1.symm) d0 d3 d4 d6 d9 (fun x hx => (X.2.1 x hx).elim) hfr hlo hcl hsl hlk (fun t hal hsz hsame => ?_) hS.2.2 hk hn
  exact ⟨(), trivial, ⟨hE, hP.kept (fun k q hk => hsame q.1 (hP k q hk).lt), hD⟩, Nat.le_trans hS.1 hsz, fun q h1 h2 => (hsame q (Nat.lt_of_lt_of_le h1 hS.1)).trans (hS.2.1 q h1 h2)⟩
end XR
section XC
variable {p : Program} {l : Launch} {e : Env} {R : Room} {s : State} {m : MethodId} {args : Array Value} {below : List Frame} {meth : Method} {c : Code} {g : vG} {A : Nat → Prop} {nL : Nat} {Q : State → Prop} {k n : Nat} {ws : va_W} {lv : List (Nat × Value)} {pc : Nat} {st : List Value} {cc : ByteArray} {Ts : List Cond} {own : String} {sa : Nat → Nat} {mc ms : Nat} {Qc : Array Value → State → Outcome → State → Prop} {w : va_W} {pE : String → Prop} {S : Type} {w' : S → va_W} {mc1 ms1 : Nat} {pE1 : String → Prop}
theorem v_xinvI (C : Cx p s m args c g A cc nL Ts own) (X : Tx l s c A sa) {y : MethodName} {wy : List Cond} {rm : Room} {As : List Value} {wc : va_W} {post : Int32 → S → Prop} {bytes : ByteArray} {maxL N index : Nat} {ret : Option FieldType} {b q0 ci : Nat} {fs : List Value} {cq : vw_C} {CN : String} (hM : xI l g sa y wy rm (.ref b :: As) wc w' post pE1 mc1 ms1) (cw : CallW R s args own CN index y bytes maxL ret wy rm mc1 ms1 N) (segs : List va_W) (isC isR : List Nat) (rest : List Value) (segs2 : S → List va_W) (ws2 : S → va_W) (hok : (isC ++ isR).isPerm (List.range segs.length) = true) (hws : ws = segs.flatten) (hC : pick segs isC = wc) (hC2 : ∀ u, pick (segs2 u) isC = w' u) (hR2 : ∀ u, pick (segs2 u) isR = pick segs isR) (hL2 : ∀ u, (segs2 u).length = segs.length) (hw2 : ∀ u, (segs2 u).flatten = ws2 u) (hq : wc[q0]? = some (cO b ci fs)) (hcq : vwCl[ci]? = some cq) (hCN : cq.1 = CN) (hlen : As.length = N) (hst : st = As.reverse ++ .ref b :: rest) (hroom : (rest.map fun v => v.category).sum ≤ 8) (hlk : meth.locks = false) (hww : ws = w) (hE : ∀ E, pE1 E → pE E) (hd : decode cc pc = .ok (.invokevirtual index, 3)) (hf : k + mc1 ≤ R.cells ∧ n + ms1 ≤ R.slots) (hmc : k + mc1 ≤ mc ∧ n + ms1 ≤ ms)
    (kk : ∀ (r : Int32) (u : S), post r u → Vx p l e R s m args below meth c g A nL (vx_MQ below Qc (xX g w pE A) args s mc ms A) (k + mc1) (n + ms1) (ws2 u) lv (pc + 3) (.int r :: rest)) : Vx p l e R s m args below meth c g A nL (vx_MQ below Qc (xX g w pE A) args s mc ms A) k n ws lv pc st := by
  intro H locs ls hP hD hS hL
  subst hst
  subst hws
  have hpm := pick_perm hok
  rw [hC] at hpm
  have hP0 := va_P_perm hpm hP
  have hD0 := va_D_perm hpm hD
  have hPc := va_P_left hP0
  have hDc := va_D_left hD0
  have hFc := va_free_left hD0 hS C.2.2.2.2.2.2
  refine vx_calli (vx_runV (As := As) (rest := rest) ⟨C.1, C.2.1, C.2.2.1, C.2.2.2.1, C.2.2.2.2.1⟩ (hM H.size) cw ⟨xPc_blind g sa _ wc H.size, hCN ▸ va_recv C.2.2.2.2.2.1.1 hPc hcq hq, fun U hU hW => ⟨rfl, by rw [hU], by rw [hU]; exact hPc, C.2.2.2.2.2.1.warm hW, hDc.weaken (fun _ _ _ _ => trivial), X.2.2.1.moved hW.alike, X.2.2.2.1.warm hW, by rw [hU]; exact (x_Z.moved hW.alike (X.2.2.2.2.kept hS.2.1)).narrow hFc⟩⟩ rfl hlen hL.1 rfl (lv_room hroom) hd hf) hS (fun q _ h => hFc q h) hFc (fun q _ h => hFc q h) (fun E ce q9 u t H1 locs1 ht hvm hw hB hz1 hk1 hS1 hce hcv hcl => ?_) (fun r u t H1 locs1 ht hvm hw hB hz1 hk1 hS1 => ?_)
  · obtain ⟨hE1, hP1, hD1⟩ := hB
    rw [ht] at hP1
    obtain ⟨hP2, hD2⟩ := join_left hP0 hD0 hk1 hFc hP1 hD1
    have hP3 := va_P_perm hpm.symm hP2
    have hD3 := va_D_perm hpm.symm hD2
    subst hww
    exact vx_out (fun x hx => (X.2.1 x hx).elim) hlk hce hcv hcl (fun t9 ht9 hal => ⟨(), trivial, ⟨hE E hE1, by rw [ht9]; exact hP3, hD3⟩, by rw [ht9]; exact hS1.1, fun q h1 h2 => by rw [ht9]; exact hS1.2.1 q h1 h2⟩) hS1.2.2 hmc.1 hmc.2
  · obtain ⟨hP1, hD1⟩ := hB
    rw [ht] at hP1
    obtain ⟨hP2, hD2⟩ := join_left hP0 hD0 hk1 hFc hP1 hD1
    have hpm2 := pick_perm (segs := segs2 u) (isC := isC) (isR := isR) (by rw [hL2 u]; exact hok)
    rw [hC2 u, hR2 u] at hpm2
    exact kk r u hw H1 locs1 ls (hw2 u ▸ va_P_perm hpm2.symm hP2) (hw2 u ▸ va_D_perm hpm2.symm hD2) hS1 hL
theorem v_xinvV (C : Cx p s m args c g A cc nL Ts own) (X : Tx l s c A sa) {y : MethodName} {wy : List Cond} {rm : Room} {As : List Value} {wc : va_W} {post : S → Prop} {bytes : ByteArray} {maxL N index : Nat} {ret : Option FieldType} {b q0 ci : Nat} {fs : List Value} {cq : vw_C} {CN : String} (hM : xV l g sa y wy rm (.ref b :: As) wc w' post pE1 mc1 ms1) (cw : CallW R s args own CN index y bytes maxL ret wy rm mc1 ms1 N) (segs : List va_W) (isC isR : List Nat) (rest : List Value) (segs2 : S → List va_W) (ws2 : S → va_W) (hok : (isC ++ isR).isPerm (List.range segs.length) = true) (hws : ws = segs.flatten) (hC : pick segs isC = wc) (hC2 : ∀ u, pick (segs2 u) isC = w' u) (hR2 : ∀ u, pick (segs2 u) isR = pick segs isR) (hL2 : ∀ u, (segs2 u).length = segs.length) (hw2 : ∀ u, (segs2 u).flatten = ws2 u) (hq : wc[q0]? = some (cO b ci fs)) (hcq : vwCl[ci]? = some cq) (hCN : cq.1 = CN) (hlen : As.length = N) (hst : st = As.reverse ++ .ref b :: rest) (hroom : (rest.map fun v => v.category).sum ≤ 8) (hlk : meth.locks = false) (hww : ws = w) (hE : ∀ E, pE1 E → pE E) (hd : decode cc pc = .ok (.invokevirtual index, 3)) (hf : k + mc1 ≤ R.cells ∧ n + ms1 ≤ R.slots) (hmc : k + mc1 ≤ mc ∧ n + ms1 ≤ ms)
    (kk : ∀ u : S, post u → Vx p l e R s m args below meth c g A nL (vx_MQ below Qc (xX g w pE A) args s mc ms A) (k + mc1) (n + ms1) (ws2 u) lv (pc + 3) (rest)) : Vx p l e R s m args below meth c g A nL (vx_MQ below Qc (xX g w pE A) args s mc ms A) k n ws lv pc st := by
  intro H locs ls hP hD hS hL
  subst hst
  subst hws
  have hpm := pick_perm hok
  rw [hC] at hpm
  have hP0 := va_P_perm hpm hP
  have hD0 := va_D_perm hpm hD
  have hPc := va_P_left hP0
  have hDc := va_D_left hD0
  have hFc := va_free_left hD0 hS C.2.2.2.2.2.2
  refine vx_callv (vx_runV (As := As) (rest := rest) ⟨C.1, C.2.1, C.2.2.1, C.2.2.2.1, C.2.2.2.2.1⟩ (hM H.size) cw ⟨xPc_blind g sa _ wc H.size, hCN ▸ va_recv C.2.2.2.2.2.1.1 hPc hcq hq, fun U hU hW => ⟨rfl, by rw [hU], by rw [hU]; exact hPc, C.2.2.2.2.2.1.warm hW, hDc.weaken (fun _ _ _ _ => trivial), X.2.2.1.moved hW.alike, X.2.2.2.1.warm hW, by rw [hU]; exact (x_Z.moved hW.alike (X.2.2.2.2.kept hS.2.1)).narrow hFc⟩⟩ rfl hlen hL.1 rfl (lv_room hroom) hd hf) hS (fun q _ h => hFc q h) hFc (fun q _ h => hFc q h) (fun E ce q9 u t H1 locs1 ht hvm hw hB hz1 hk1 hS1 hce hcv hcl => ?_) (fun u t H1 locs1 ht hvm hw hB hz1 hk1 hS1 => ?_)
  · obtain ⟨hE1, hP1, hD1⟩ := hB
    rw [ht] at hP1
    obtain ⟨hP2, hD2⟩ := join_left hP0 hD0 hk1 hFc hP1 hD1
    have hP3 := va_P_perm hpm.symm hP2
    have hD3 := va_D_perm hpm.symm hD2
    subst hww
    exact vx_out (fun x hx => (X.2.1 x hx).elim) hlk hce hcv hcl (fun t9 ht9 hal => ⟨(), trivial, ⟨hE E hE1, by rw [ht9]; exact hP3, hD3⟩, by rw [ht9]; exact hS1.1, fun q h1 h2 => by rw [ht9]; exact hS1.2.1 q h1 h2⟩) hS1.2.2 hmc.1 hmc.2
  · obtain ⟨hP1, hD1⟩ := hB
    rw [ht] at hP1
    obtain ⟨hP2, hD2⟩ := join_left hP0 hD0 hk1 hFc hP1 hD1
    have hpm2 := pick_perm (segs := segs2 u) (isC := isC) (isR := isR) (by rw [hL2 u]; exact hok)
    rw [hC2 u, hR2 u] at hpm2
    exact kk u hw H1 locs1 ls (hw2 u ▸ va_P_perm hpm2.symm hP2) (hw2 u ▸ va_D_perm hpm2.symm hD2) hS1 hL
end XC
