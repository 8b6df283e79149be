section NEW
variable {p : Program} {l : Launch} {e : Env} {R : Room} {s : State} {m : MethodId} {args : Array Value} {below : List Frame} {meth : Method} {c : Code} {g : vG} {A : Nat → Prop} {nL : Nat} {Q : State → Prop} {k n : Nat} {ws : va_W} {lv : List (Nat × Value)} {pc : Nat} {st : List Value} {cc : ByteArray} {Ts : List Cond} {own : String}
theorem v_newaI (C : Cx p s m args c g A cc nL Ts own) {z : Int} (N : Nat) (ws' : Nat → va_W) (harr : Cond.arrayClass .int ∈ Ts) (hz : z = (N : Int)) (hN : N ≤ 2000) (hcells : k + 1 ≤ R.cells) (hslots : n + N ≤ R.slots) (hd : decode cc pc = .ok (.newarray .int, 2)) (hw : ∀ q, ws ++ [cI g q N (fun _ => 0)] = ws' q)
    (kk : ∀ q : Nat, Vx p l e R s m args below meth c g A nL Q (k + 1) (n + N) (ws' q) lv (pc + 2) (.ref q :: st)) : Vx p l e R s m args below meth c g A nL Q k n ws lv pc (.int (iI z) :: st) := by
  intro H locs ls hP hD hS hL
  have hz2 : ¬ iI z < 0 := by
    rw [show (0 : Int32) = iI 0 from rfl, iI_lt ⟨by omega, by omega⟩ ⟨by omega, by omega⟩]
    omega
  refine va_newa (D := g.1) (tys := v_T g) (atype := .int) C.1 C.2.1 (C.2.2.2.2.1 _ harr) (ty := .int) rfl C.2.2.2.2.2.1.1 hP hD hS C.2.2.2.2.2.2 (a0 := (N, .inl (fun _ => iI 0))) (N' := N) (fun cA => by rw [vp_cell_i]; rfl) hz2 (iI_cl hz (by omega)) (Nat.le_trans (Nat.mul_le_mul hN (show componentBytes .int ≤ 8 by decide)) (by decide)) hcells hslots hd (fun q cA H1 hK1 hP1 hD1 hS1 => ?_)
  have e1 := (hK1.2 4 _ rfl).2
  have e2 := (C.2.2.2.2.2.1.1.2 1 _ rfl).2
  have e3 : cA = g.2.2.1 := Option.some.inj (Eq.trans (Eq.symm e1) e2)
  rw [e3] at hP1 hD1
  have hP2 : va_P g.1 vwCl (ws ++ [cI g q N (fun _ => 0)]) H1 := hP1
  have hD2 : va_D A (ws ++ [cI g q N (fun _ => 0)]) := hD1
  rw [hw q] at hP2 hD2
  exact kk q H1 locs ls hP2 hD2 hS1 hL
theorem v_newaC (C : Cx p s m args c g A cc nL Ts own) {z : Int} (N : Nat) (ws' : Nat → va_W) (harr : Cond.arrayClass .char ∈ Ts) (hz : z = (N : Int)) (hN : N ≤ 2000) (hcells : k + 1 ≤ R.cells) (hslots : n + N ≤ R.slots) (hd : decode cc pc = .ok (.newarray .char, 2)) (hw : ∀ q, ws ++ [cC g q N (fun _ => 0)] = ws' q)
    (kk : ∀ q : Nat, Vx p l e R s m args below meth c g A nL Q (k + 1) (n + N) (ws' q) lv (pc + 2) (.ref q :: st)) : Vx p l e R s m args below meth c g A nL Q k n ws lv pc (.int (iI z) :: st) := by
  intro H locs ls hP hD hS hL
  have hz2 : ¬ iI z < 0 := by
    rw [show (0 : Int32) = iI 0 from rfl, iI_lt ⟨by omega, by omega⟩ ⟨by omega, by omega⟩]
    omega
  refine va_newa (D := g.1) (tys := v_T g) (atype := .char) C.1 C.2.1 (C.2.2.2.2.1 _ harr) (ty := .char) rfl C.2.2.2.2.2.1.1 hP hD hS C.2.2.2.2.2.2 (a0 := (N, .inl (fun _ => iI 0))) (N' := N) (fun cA => by rw [vp_cell_i]; rfl) hz2 (iI_cl hz (by omega)) (Nat.le_trans (Nat.mul_le_mul hN (show componentBytes .char ≤ 8 by decide)) (by decide)) hcells hslots hd (fun q cA H1 hK1 hP1 hD1 hS1 => ?_)
  have e1 := (hK1.2 4 _ rfl).2
  have e2 := (C.2.2.2.2.2.1.1.2 0 _ rfl).2
  have e3 : cA = g.2.1 := Option.some.inj (Eq.trans (Eq.symm e1) e2)
  rw [e3] at hP1 hD1
  have hP2 : va_P g.1 vwCl (ws ++ [cC g q N (fun _ => 0)]) H1 := hP1
  have hD2 : va_D A (ws ++ [cC g q N (fun _ => 0)]) := hD1
  rw [hw q] at hP2 hD2
  exact kk q H1 locs ls hP2 hD2 hS1 hL
theorem v_newaL (C : Cx p s m args c g A cc nL Ts own) {z : Int} (N : Nat) (ws' : Nat → va_W) (harr : Cond.arrayClass .long ∈ Ts) (hz : z = (N : Int)) (hN : N ≤ 2000) (hcells : k + 1 ≤ R.cells) (hslots : n + N ≤ R.slots) (hd : decode cc pc = .ok (.newarray .long, 2)) (hw : ∀ q, ws ++ [cL g q N (fun _ => 0)] = ws' q)
    (kk : ∀ q : Nat, Vx p l e R s m args below meth c g A nL Q (k + 1) (n + N) (ws' q) lv (pc + 2) (.ref q :: st)) : Vx p l e R s m args below meth c g A nL Q k n ws lv pc (.int (iI z) :: st) := by
  intro H locs ls hP hD hS hL
  have hz2 : ¬ iI z < 0 := by
    rw [show (0 : Int32) = iI 0 from rfl, iI_lt ⟨by omega, by omega⟩ ⟨by omega, by omega⟩]
    omega
  refine va_newa (D := g.1) (tys := v_T g) (atype := .long) C.1 C.2.1 (C.2.2.2.2.1 _ harr) (ty := .long) rfl C.2.2.2.2.2.1.1 hP hD hS C.2.2.2.2.2.2 (a0 := (N, .inr (.inl (fun _ => 0)))) (N' := N) (fun cA => by rw [vp_cell_l]; rfl) hz2 (iI_cl hz (by omega)) (Nat.le_trans (Nat.mul_le_mul hN (show componentBytes .long ≤ 8 by decide)) (by decide)) hcells hslots hd (fun q cA H1 hK1 hP1 hD1 hS1 => ?_)
  have e1 := (hK1.2 4 _ rfl).2
  have e2 := (C.2.2.2.2.2.1.1.2 2 _ rfl).2
  have e3 : cA = g.2.2.2.1 := Option.some.inj (Eq.trans (Eq.symm e1) e2)
  rw [e3] at hP1 hD1
  have hP2 : va_P g.1 vwCl (ws ++ [cL g q N (fun _ => 0)]) H1 := hP1
  have hD2 : va_D A (ws ++ [cL g q N (fun _ => 0)]) := hD1
  rw [hw q] at hP2 hD2
  exact kk q H1 locs ls hP2 hD2 hS1 hL
theorem v_new (C : Cx p s m args c g A cc nL Ts own) {ci N index : Nat} {CN : String} {T : u_T} {fs : List Value} {ty0 : Nat → FieldType} (ws' : Nat → va_W) (hc : vwCl[ci]? = some (CN, T, N)) (hin : ∀ w ∈ u_ws CN T N, w ∈ Ts) (hty : ∀ k, k < N → parseFieldDescriptor (T k).2.2.1 = some (ty0 k)) (hfs : ∀ j, j < N → defaultValue (ty0 j) = vp_V fs j) (hcl : Cond.classLink own index CN ∈ Ts) (hinst : Cond.instantiable CN N ∈ Ts) (hini : Cond.initialized CN ∈ Ts) (hcells : k + 1 ≤ R.cells) (hslots : n + N ≤ R.slots) (hd : decode cc pc = .ok (.new index, 3)) (hw : ∀ q, ws ++ [cO q ci fs] = ws' q)
    (kk : ∀ q : Nat, Vx p l e R s m args below meth c g A nL Q (k + 1) (n + N) (ws' q) lv (pc + 3) (.ref q :: st)) : Vx p l e R s m args below meth c g A nL Q k n ws lv pc st := fun H locs ls hP hD hS hL => va_new (D := g.1) C.1 C.2.1 C.2.2.2.2.1 hin ty0 hty C.2.2.2.1 (C.2.2.2.2.1 _ hcl) (C.2.2.2.2.1 _ hinst) (C.2.2.2.2.1 _ hini) C.2.2.2.2.2.1.1 hP hD hS C.2.2.2.2.2.2 hc hfs hcells hslots hd (fun q H1 hP1 hD1 hS1 => by
    rw [hw q] at hP1 hD1
    exact kk q H1 locs ls hP1 hD1 hS1 hL)
theorem v_objI (C : Cx p s m args c g A cc nL Ts own) {a index : Nat} (hlink : Cond.methodLink own index objectInit ∈ Ts) (hinst : Cond.instanceMethod objectInit ∈ Ts) (hcode : Cond.code objectInit ⟨#[0xb1]⟩ 1 none ∈ Ts) (hd : decode cc pc = .ok (.invokespecial index, 3)) (hfr : 1 ≤ R.frames) (hlo : (st.map fun v => v.category).sum + 12 ≤ R.locals)
    (kk : Vx p l e R s m args below meth c g A nL Q k n ws lv (pc + 3) st) : Vx p l e R s m args below meth c g A nL Q k n ws lv pc (.ref a :: st) := fun H locs ls hP hD hS hL => W.objInit C.1 C.2.1 C.2.2.2.1 (C.2.2.2.2.1 _ hlink) (C.2.2.2.2.1 _ hinst) (C.2.2.2.2.1 _ hcode) rfl (hL.1.trans C.2.2.1.symm) rfl hd hfr (by show 2 * 0 + _ + 12 ≤ _; omega) (W.eq (g2 := F0 m (pc + 3) ls st) rfl (kk H locs ls hP hD hS hL))
end NEW
section VC
variable {p : Program} {l : Launch} {e : Env} {R : Room} {s : State} {m : MethodId} {args : Array Value} {below : List Frame} {meth : Method} {c : Code} {g : vG} {A : Nat → Prop} {nL : Nat} {Q : State → Prop} {k n : Nat} {ws : va_W} {lv : List (Nat × Value)} {pc : Nat} {st : List Value} {cc : ByteArray} {Ts : List Cond} {own : String}
variable {S : Type} {w' : S → va_W} {mc ms : Nat}
theorem v_invIV (C : Cx p s m args c g A cc nL Ts own) {y : MethodName} {wy : List Cond} {rm : Room} {As : List Value} {wc : va_W} {post : S → Prop} {bytes : ByteArray} {maxL N index : Nat} {b : Nat} (hM : mV l g y wy rm (.ref b :: As) wc w' post mc ms) (cw : CallB R s args own index y bytes maxL none wy rm mc ms N ∧ y.name = "<init>" ∧ (Cond.instanceMethod y).before args s = true) (segs : List va_W) (isC isR : List Nat) (rest : List Value) (segs2 : S → List va_W) (ws2 : S → va_W) (hok : (isC ++ isR).isPerm (List.range segs.length) = true) (hws : ws = segs.flatten) (hC : pick segs isC = wc) (hC2 : ∀ u, pick (segs2 u) isC = w' u) (hR2 : ∀ u, pick (segs2 u) isR = pick segs isR) (hL2 : ∀ u, (segs2 u).length = segs.length) (hw2 : ∀ u, (segs2 u).flatten = ws2 u) (hlen : As.length = N) (hst : st = As.reverse ++ .ref b :: rest) (hroom : (rest.map fun v => v.category).sum ≤ 8) (hd : decode cc pc = .ok (.invokespecial index, 3)) (hf : k + mc ≤ R.cells ∧ n + ms ≤ R.slots)
    (kk : ∀ u : S, post u → Vx p l e R s m args below meth c g A nL Q (k + mc) (n + ms) (ws2 u) lv (pc + 3) (rest)) : Vx p l e R s m args below meth c g A nL Q k n ws lv pc st := by
  intro H locs ls hP hD hS hL
  subst hst
  subst hws
  have hpm := pick_perm hok
  rw [hC] at hpm
  have hP0 := va_P_perm hpm hP
  have hD0 := va_D_perm hpm hD
  have hPc := va_P_left hP0
  have hDc := va_D_left hD0
  have hFc := va_free_left hD0 hS C.2.2.2.2.2.2
  refine va_callv (va_runI (As := As) (rest := rest) ⟨C.1, C.2.1, C.2.2.1, C.2.2.2.1, C.2.2.2.2.1⟩ (hM H.size) cw ⟨mPc_blind g _ wc H.size, fun U hU hW => ⟨rfl, by rw [hU], by rw [hU]; exact hPc, C.2.2.2.2.2.1.warm hW, hDc.weaken (fun _ _ _ _ => trivial)⟩⟩ rfl hlen hL.1 rfl (lv_room hroom) hd hf) hS (fun q _ h => hFc q h) hFc (fun u t H1 locs1 ht hvm hw hB hz1 hk1 hS1 => ?_)
  obtain ⟨hP1, hD1⟩ := hB
  rw [ht] at hP1
  obtain ⟨hP2, hD2⟩ := join_left hP0 hD0 hk1 hFc hP1 hD1
  have hpm2 := pick_perm (segs := segs2 u) (isC := isC) (isR := isR) (by rw [hL2 u]; exact hok)
  rw [hC2 u, hR2 u] at hpm2
  exact kk u hw H1 locs1 ls (hw2 u ▸ va_P_perm hpm2.symm hP2) (hw2 u ▸ va_D_perm hpm2.symm hD2) hS1 hL
end VC
abbrev dfX0 : List Value := [.null, .null, .null, .null, .null, .null, .null, .null, .null, .int 0]
theorem dfX0_ok : ∀ j, j < 10 → defaultValue (tyX0 j) = vp_V dfX0 j := fun j hj => match j, hj with
  | 0, _ => rfl
  | 1, _ => rfl
  | 2, _ => rfl
  | 3, _ => rfl
  | 4, _ => rfl
  | 5, _ => rfl
  | 6, _ => rfl
  | 7, _ => rfl
  | 8, _ => rfl
  | 9, _ => rfl
  | j + 10, h => absurd h (by omega)
abbrev dfX1 : List Value := [.null, .null, .int 0]
theorem dfX1_ok : ∀ j, j < 3 → defaultValue (tyX1 j) = vp_V dfX1 j := fun j hj => match j, hj with
  | 0, _ => rfl
  | 1, _ => rfl
  | 2, _ => rfl
  | j + 3, h => absurd h (by omega)
abbrev dfX2 : List Value := [.null, .null, .null, .int 0]
theorem dfX2_ok : ∀ j, j < 4 → defaultValue (tyX2 j) = vp_V dfX2 j := fun j hj => match j, hj with
  | 0, _ => rfl
  | 1, _ => rfl
  | 2, _ => rfl
  | 3, _ => rfl
  | j + 4, h => absurd h (by omega)
abbrev dfX3 : List Value := [.null, .null]
theorem dfX3_ok : ∀ j, j < 2 → defaultValue (tyX3 j) = vp_V dfX3 j := fun j hj => match j, hj with
  | 0, _ => rfl
  | 1, _ => rfl
  | j + 2, h => absurd h (by omega)
abbrev dfX4 : List Value := [.null, .null, .null]
theorem dfX4_ok : ∀ j, j < 3 → defaultValue (tyX4 j) = vp_V dfX4 j := fun j hj => match j, hj with
  | 0, _ => rfl
  | 1, _ => rfl
  | 2, _ => rfl
  | j + 3, h => absurd h (by omega)
abbrev dfX5 : List Value := [.null, .int 0, .null, .int 0, .null, .null, .null, .null, .null, .null, .null]
theorem dfX5_ok : ∀ j, j < 11 → defaultValue (tyX5 j) = vp_V dfX5 j := fun j hj => match j, hj with
  | 0, _ => rfl
  | 1, _ => rfl
  | 2, _ => rfl
  | 3, _ => rfl
  | 4, _ => rfl
  | 5, _ => rfl
  | 6, _ => rfl
  | 7, _ => rfl
  | 8, _ => rfl
  | 9, _ => rfl
  | 10, _ => rfl
  | j + 11, h => absurd h (by omega)
