abbrev rL1 (g : vG) (a : Nat) (f : Nat → Int64) : va_W := [cL g a 1 f]
abbrev rD1 (g : vG) (a : Nat) (f : Nat → UInt64) : va_W := [cD g a 1 f]
abbrev wALL (g : vG) (ma : Nat) (u : Nat → Nat) : va_W := wMA g ma ((u 0)) ((u 1)) ((u 2)) ((u 3)) ((u 13)) ((u 16)) ((u 20)) ((u 21)) ((u 24)) ((fun _ => 0)) 0 ((fun _ => 0)) 1 ((tg0 10)) ++ (wLog g ((u 3)) ((u 4)) ((u 5)) ((u 6)) ((u 7)) ((u 8)) ((u 9)) ((u 10)) ((u 11)) ((u 12)) (updN ((fun _ => 0)) (0) (0)) (updZ ((fun _ => 0)) (0) (-1)) (updZ ((fun _ => 0)) (0) (-1)) ((fun _ => 0)) ((fun _ => 0)) ((fun _ => 0)) ((fun _ => 0)) (updN ((fun _ => 0)) (0) (2 ^ 0)) (updN ((fun _ => 0)) (0) (2 ^ 0)) (0 + 1) ++ (wPal g ((u 13)) ((u 14)) ((u 15)) (updZ (fun _ => 0) 0 (-1000)) ((fun _ => 0)) 1 ++ (wQuo g ((u 16)) ((u 17)) ((u 18)) ((u 19)) ((fun _ => 0)) ((fun _ => 0)) ((fun _ => 0)) 0 ++ (wScr g ((u 20)) ((u 3)) ((u 16)) ++ (wTab g ((u 21)) ((u 13)) ((u 22)) ((u 23)) (wrT (updZ (fun _ => 0) 0 (-1000)) 1 ((fun _ => 0)) ((fun _ => 0)) ((fun _ => 0)) (updN ((fun _ => 0)) (0) (0)) ((fun _ => 0)) ((fun _ => 0)) ((fun _ => 0)) ((fun _ => 0)) (updN ((fun _ => 0)) (0) (2 ^ 0)) (updZ ((fun _ => 0)) (0) (-1)) (updZ ((fun _ => 0)) (0) (-1)) ((fun _ => 0)) 0) (wrT (updZ (fun _ => 0) 0 (-1000)) 1 ((fun _ => 0)) ((fun _ => 0)) ((fun _ => 0)) (updN ((fun _ => 0)) (0) (0)) ((fun _ => 0)) ((fun _ => 0)) ((fun _ => 0)) ((fun _ => 0)) (updN ((fun _ => 0)) (0) (2 ^ 0)) (updZ ((fun _ => 0)) (0) (-1)) (updZ ((fun _ => 0)) (0) (-1)) ((fun _ => 0)) 0) ++ (wTab g ((u 24)) ((u 13)) ((u 25)) ((u 26)) ((fun _ => 0)) ((fun _ => 0)) ++ ([])))))))
section NEW
variable {p : Program} {l : Launch} {e : Env} {R : Room} {s : State} {m : MethodId} {args : Array Value} {below : List Frame} {meth : Method} {c : Code} {g : vG} {A : Nat → Prop} {nL : Nat} {Q : State → Prop} {k n : Nat} {ws : va_W} {lv : List (Nat × Value)} {pc : Nat} {st : List Value} {cc : ByteArray} {Ts : List Cond} {own : String}
theorem v_newaD (C : Cx p s m args c g A cc nL Ts own) {z : Int} (N : Nat) (ws' : Nat → va_W) (harr : Cond.arrayClass .double ∈ Ts) (hz : z = (N : Int)) (hN : N ≤ 2000) (hcells : k + 1 ≤ R.cells) (hslots : n + N ≤ R.slots) (hd : decode cc pc = .ok (.newarray .double, 2)) (hw : ∀ q, ws ++ [cD g q N (fun _ => 0)] = ws' q)
    (kk : ∀ q : Nat, Vx p l e R s m args below meth c g A nL Q (k + 1) (n + N) (ws' q) lv (pc + 2) (.ref q :: st)) : Vx p l e R s m args below meth c g A nL Q k n ws lv pc (.int (iI z) :: st) := by
  intro H locs ls hP hD hS hL
  have hz2 : ¬ iI z < 0 := by
    rw [show (0 : Int32) = iI 0 from rfl, iI_lt ⟨by omega, by omega⟩ ⟨by omega, by omega⟩]
    omega
  refine va_newa (D := g.1) (tys := v_T g) (atype := .double) C.1 C.2.1 (C.2.2.2.2.1 _ harr) (ty := .double) rfl C.2.2.2.2.2.1.1 hP hD hS C.2.2.2.2.2.2 (a0 := (N, .inr (.inr (.inr (.inl (fun _ => 0)))))) (N' := N) (fun cA => by rw [vp_cell_d]; rfl) hz2 (iI_cl hz (by omega)) (Nat.le_trans (Nat.mul_le_mul hN (show componentBytes .double ≤ 8 by decide)) (by decide)) hcells hslots hd (fun q cA H1 hK1 hP1 hD1 hS1 => ?_)
  have e1 := (hK1.2 4 _ rfl).2
  have e2 := (C.2.2.2.2.2.1.1.2 3 _ rfl).2
  have e3 : cA = g.2.2.2.2 := Option.some.inj (Eq.trans (Eq.symm e1) e2)
  rw [e3] at hP1 hD1
  have hP2 : va_P g.1 vwCl (ws ++ [cD g q N (fun _ => 0)]) H1 := hP1
  have hD2 : va_D A (ws ++ [cD g q N (fun _ => 0)]) := hD1
  rw [hw q] at hP2 hD2
  exact kk q H1 locs ls hP2 hD2 hS1 hL
end NEW
theorem clL_law_5 : Cond.classLink RL 8 RX5 ∈ wsL_law := by decide +kernel
theorem ibL_law_5 : Cond.instantiable RX5 11 ∈ wsL_law := by decide +kernel
theorem itL_law_5 : Cond.initialized RX5 ∈ wsL_law := by decide +kernel
theorem inL_law_5 : ∀ w ∈ u_ws RX5 TX5 11, w ∈ wsL_law := by decide +kernel
theorem ciL_law_X5117 : Cond.initialized RX5 ∈ wsL_law := by decide +kernel
theorem cmL_law_X5117 : Cond.methodLink RL 117 yX5_init ∈ wsL_law := by decide +kernel
theorem ckL_law_X5117 : Cond.instanceMethod yX5_init ∈ wsL_law := by decide +kernel
theorem clL_law_6 : Cond.classLink RL 118 RX6 ∈ wsL_law := by decide +kernel
theorem ibL_law_6 : Cond.instantiable RX6 23 ∈ wsL_law := by decide +kernel
theorem itL_law_6 : Cond.initialized RX6 ∈ wsL_law := by decide +kernel
theorem inL_law_6 : ∀ w ∈ u_ws RX6 TX6 23, w ∈ wsL_law := by decide +kernel
theorem ciL_law_X6120 : Cond.initialized RX6 ∈ wsL_law := by decide +kernel
theorem cmL_law_X6120 : Cond.methodLink RL 120 yX6_init ∈ wsL_law := by decide +kernel
theorem ckL_law_X6120 : Cond.instanceMethod yX6_init ∈ wsL_law := by decide +kernel
theorem arL_law_L : Cond.arrayClass .long ∈ wsL_law := by decide +kernel
theorem arL_law_D : Cond.arrayClass .double ∈ wsL_law := by decide +kernel
theorem arr_K {s : State} {args : Array Value} {ty : FieldType} (h : (Cond.arrayClass ty).before args s = true) (hn : ∀ cA, s.vm.findClass ("[" ++ ty.toString) = some cA → va_RA s cA ty) : ∃ cA : ClassId, ArrOfT s cA ty ∧ va_RA s cA ty := by
  obtain ⟨cA, kA, comp, h1, h2, h3⟩ := Cond.arrayClass_spec h
  exact ⟨cA, fun n z => ⟨fun k h => (by cases h), kA, h2, comp, h3⟩, hn cA h1⟩
theorem str_K {s : State} {b : Nat} {k : Nat} {tx : String} (h1 : (Cond.stringRef RX5 k tx).before #[Value.ref b] s = true) (h2 : (Cond.exactly (.string RX5 k) "java/lang/String").before #[Value.ref b] s = true) : ∃ a : Nat, vk_R RX5 k tx a s := by
  obtain ⟨a, c, cA, kA, q1, -⟩ := Cond.exactly_spec (args := #[Value.ref b]) (first := s) (o := none) (s := s) (idx := []) (t := .string RX5 k) (cls := "java/lang/String") h2
  exact ⟨a, vk_R.of (A := #[Value.ref b]) h1 q1⟩
set_option maxHeartbeats 8000000 in
theorem law_0 {p : Program} {l : Launch} {e : Env} {s : State} {m : MethodId} {below : List Frame} {meth : Method} {c : Code} {g : vG} {A : Nat → Prop} {b : Nat} {sx : Nat → Nat} {L : Nat} {xs : Nat → Int32} (hr : meth.sig.returnType = ret) (hlocks : meth.locks = false) (hAq : ∀ q, A q → s.heap.size ≤ q) (K9 : LCx p l s m c g A sx b L xs) : Vx p l e room_1 s m #[Value.ref b] below meth c g A 9 (lw_Z below #[Value.ref b] s) 0 0 [] [(0, .ref b)] 0 [] := by
  obtain ⟨C, hst, hX, hxx, hbl, hbA, hL9⟩ := id K9
  refine v_new C (ci := 5) (fs := dfX5) (fun q_1 => nX5 g q_1 .null (.int 0) .null (.int 0) .null .null .null .null .null .null .null ++ ([])) rfl inL_law_5 tyX5_ok dfX5_ok clL_law_5 ibL_law_5 itL_law_5 (Nat.le_of_ble_eq_true rfl) (Nat.le_of_ble_eq_true rfl) dL_law_0 (fun _ => rfl) ?_
  intro q_1
  refine v_dup C dL_law_3 rfl ?_
  refine v_invIV C (As := []) (kX5_init l g (ma := q_1)) (cwI 0 C.2.2.2.2.1 gL_law_X5_init rfl rfl rfl (C.2.2.2.2.1 _ ciL_law_X5117) (C.2.2.2.2.1 _ cmL_law_X5117) (C.2.2.2.2.1 _ ckL_law_X5117) rfl (by decide +kernel) ⟨Nat.le_of_ble_eq_true rfl, Nat.le_of_ble_eq_true rfl⟩) [nX5 g q_1 .null (.int 0) .null (.int 0) .null .null .null .null .null .null .null] [0] [] [.ref (q_1)] (fun u_2 => [wALL g q_1 u_2]) (fun u_2 => wALL g q_1 u_2 ++ ([])) rfl rfl rfl (fun _ => rfl) (fun _ => rfl) (fun _ => rfl) (fun _ => rfl) rfl rfl (Nat.le_of_ble_eq_true rfl) dL_law_4 ⟨Nat.le_of_ble_eq_true rfl, Nat.le_of_ble_eq_true rfl⟩ (fun u_2 h_3 => ?_)
  refine v_astore_n C [(1, .ref (q_1)), (0, .ref (b))] dL_law_7 rfl (by decide) rfl ?_
  refine v_new C (ci := 6) (fs := dfX6) (fun q_4 => wALL g q_1 u_2 ++ (nX6 g q_4 (.int 0) .null (.int 0) .null .null .null .null .null .null (.int 0) .null .null (.int 0) .null .null .null (.int 0) .null .null .null .null .null (.int 0) ++ ([]))) rfl inL_law_6 tyX6_ok dfX6_ok clL_law_6 ibL_law_6 itL_law_6 (Nat.le_of_ble_eq_true rfl) (Nat.le_of_ble_eq_true rfl) dL_law_8 (fun _ => rfl) ?_
  intro q_4
  refine v_dup C dL_law_11 rfl ?_
  refine v_invIV C (As := []) (kX6_init l g (mm := q_4)) (cwI 0 C.2.2.2.2.1 gL_law_X6_init rfl rfl rfl (C.2.2.2.2.1 _ ciL_law_X6120) (C.2.2.2.2.1 _ cmL_law_X6120) (C.2.2.2.2.1 _ ckL_law_X6120) rfl (by decide +kernel) ⟨Nat.le_of_ble_eq_true rfl, Nat.le_of_ble_eq_true rfl⟩) [wALL g q_1 u_2, nX6 g q_4 (.int 0) .null (.int 0) .null .null .null .null .null .null (.int 0) .null .null (.int 0) .null .null .null (.int 0) .null .null .null .null .null (.int 0)] [1] [0] [.ref (q_4)] (fun u_5 => [wALL g q_1 u_2, wMM g q_4 ((u_5 0)) ((u_5 1)) ((u_5 2)) ((u_5 3)) ((u_5 4)) ((u_5 5)) ((u_5 6)) ((u_5 7)) ((u_5 8)) ((u_5 9)) ((u_5 10)) ((u_5 11)) ((u_5 12)) ((u_5 13)) ((u_5 14)) ((u_5 15)) ((u_5 16)) ((fun _ => 0)) 0 1 ((updZ (fun _ => 0) (0) (-1))) ((updZ (fun _ => 0) (0) (-1))) ((updN (fun _ => 0) 0 1)) ((updN (fun _ => 0) 0 1)) ((fun _ => 0)) ((fun _ => 0)) 1 ((fun _ => 0)) ((tg0 10)) 0 ((fun _ => 0)) ((fun _ => 0)) ((fun _ => 0)) 1 v0F ((fun _ => 0)) ((fun _ => 0)) ((fun _ => 0)) ((fun _ => 0)) 0]) (fun u_5 => wALL g q_1 u_2 ++ (wMM g q_4 ((u_5 0)) ((u_5 1)) ((u_5 2)) ((u_5 3)) ((u_5 4)) ((u_5 5)) ((u_5 6)) ((u_5 7)) ((u_5 8)) ((u_5 9)) ((u_5 10)) ((u_5 11)) ((u_5 12)) ((u_5 13)) ((u_5 14)) ((u_5 15)) ((u_5 16)) ((fun _ => 0)) 0 1 ((updZ (fun _ => 0) (0) (-1))) ((updZ (fun _ => 0) (0) (-1))) ((updN (fun _ => 0) 0 1)) ((updN (fun _ => 0) 0 1)) ((fun _ => 0)) ((fun _ => 0)) 1 ((fun _ => 0)) ((tg0 10)) 0 ((fun _ => 0)) ((fun _ => 0)) ((fun _ => 0)) 1 v0F ((fun _ => 0)) ((fun _ => 0)) ((fun _ => 0)) ((fun _ => 0)) 0 ++ ([]))) rfl rfl rfl (fun _ => rfl) (fun _ => rfl) (fun _ => rfl) (fun _ => rfl) rfl rfl (Nat.le_of_ble_eq_true rfl) dL_law_12 ⟨Nat.le_of_ble_eq_true rfl, Nat.le_of_ble_eq_true rfl⟩ (fun u_5 h_6 => ?_)
  refine v_astore_n C [(2, .ref (q_4)), (1, .ref (q_1)), (0, .ref (b))] dL_law_15 rfl (by decide) rfl ?_
  refine v_iconst C (z := 1) dL_law_16 ?_
  refine v_newaL C 1 (fun q_7 => wALL g q_1 u_2 ++ (wMM g q_4 ((u_5 0)) ((u_5 1)) ((u_5 2)) ((u_5 3)) ((u_5 4)) ((u_5 5)) ((u_5 6)) ((u_5 7)) ((u_5 8)) ((u_5 9)) ((u_5 10)) ((u_5 11)) ((u_5 12)) ((u_5 13)) ((u_5 14)) ((u_5 15)) ((u_5 16)) ((fun _ => 0)) 0 1 ((updZ (fun _ => 0) (0) (-1))) ((updZ (fun _ => 0) (0) (-1))) ((updN (fun _ => 0) 0 1)) ((updN (fun _ => 0) 0 1)) ((fun _ => 0)) ((fun _ => 0)) 1 ((fun _ => 0)) ((tg0 10)) 0 ((fun _ => 0)) ((fun _ => 0)) ((fun _ => 0)) 1 v0F ((fun _ => 0)) ((fun _ => 0)) ((fun _ => 0)) ((fun _ => 0)) 0 ++ (rL1 g q_7 ((fun _ => 0)) ++ ([])))) arL_law_L rfl (Nat.le_of_ble_eq_true rfl) (Nat.le_of_ble_eq_true rfl) (Nat.le_of_ble_eq_true rfl) dL_law_17 (fun _ => rfl) ?_
  intro q_7
  refine v_astore_n C [(3, .ref (q_7)), (2, .ref (q_4)), (1, .ref (q_1)), (0, .ref (b))] dL_law_19 rfl (by decide) rfl ?_
  refine v_iconst C (z := 1) dL_law_20 ?_
  refine v_newaD C 1 (fun q_8 => wALL g q_1 u_2 ++ (wMM g q_4 ((u_5 0)) ((u_5 1)) ((u_5 2)) ((u_5 3)) ((u_5 4)) ((u_5 5)) ((u_5 6)) ((u_5 7)) ((u_5 8)) ((u_5 9)) ((u_5 10)) ((u_5 11)) ((u_5 12)) ((u_5 13)) ((u_5 14)) ((u_5 15)) ((u_5 16)) ((fun _ => 0)) 0 1 ((updZ (fun _ => 0) (0) (-1))) ((updZ (fun _ => 0) (0) (-1))) ((updN (fun _ => 0) 0 1)) ((updN (fun _ => 0) 0 1)) ((fun _ => 0)) ((fun _ => 0)) 1 ((fun _ => 0)) ((tg0 10)) 0 ((fun _ => 0)) ((fun _ => 0)) ((fun _ => 0)) 1 v0F ((fun _ => 0)) ((fun _ => 0)) ((fun _ => 0)) ((fun _ => 0)) 0 ++ (rL1 g q_7 ((fun _ => 0)) ++ (rD1 g q_8 ((fun _ => 0)) ++ ([]))))) arL_law_D rfl (Nat.le_of_ble_eq_true rfl) (Nat.le_of_ble_eq_true rfl) (Nat.le_of_ble_eq_true rfl) dL_law_21 (fun _ => rfl) ?_
  intro q_8
  refine v_astore C [(4, .ref (q_8)), (3, .ref (q_7)), (2, .ref (q_4)), (1, .ref (q_1)), (0, .ref (b))] dL_law_23 (by decide) rfl ?_
  refine v_iconst C (z := 0) dL_law_25 ?_
  refine v_istore C [(5, .int (iI (0))), (4, .ref (q_8)), (3, .ref (q_7)), (2, .ref (q_4)), (1, .ref (q_1)), (0, .ref (b))] dL_law_26 (by decide) rfl ?_
  have h9 := law_loop (e := e) (below := below) (ma := q_1) (m1 := (u_2 0)) (m2 := (u_2 1)) (m3 := (u_2 2)) (la := (u_2 3)) (l1 := (u_2 4)) (l2 := (u_2 5)) (l3 := (u_2 6)) (l4 := (u_2 7)) (l5 := (u_2 8)) (l6 := (u_2 9)) (l7 := (u_2 10)) (l8 := (u_2 11)) (l9 := (u_2 12)) (tp := (u_2 13)) (tv := (u_2 14)) (tr := (u_2 15)) (qa := (u_2 16)) (q1 := (u_2 17)) (q2 := (u_2 18)) (q3 := (u_2 19)) (sa := (u_2 20)) (ta := (u_2 21)) (tlo := (u_2 22)) (thi := (u_2 23)) (ua := (u_2 24)) (ulo := (u_2 25)) (uhi := (u_2 26)) (mm := q_4) (b1 := (u_5 0)) (b2 := (u_5 1)) (b3 := (u_5 2)) (b4 := (u_5 3)) (b5 := (u_5 4)) (b6 := (u_5 5)) (b7 := (u_5 6)) (b8 := (u_5 7)) (b9 := (u_5 8)) (b10 := (u_5 9)) (b11 := (u_5 10)) (b12 := (u_5 11)) (b13 := (u_5 12)) (b14 := (u_5 13)) (b15 := (u_5 14)) (b16 := (u_5 15)) (b17 := (u_5 16)) (oa := q_7) (od := q_8) hr hlocks hAq K9 (L + 1) 0 (by omega) (by omega) (fun _ => 0) (tg0 10) (updZ (fun _ => 0) (0) (-1)) (updZ (fun _ => 0) (0) (-1)) (updZ (fun _ => 0) 0 (-1000)) (fun _ => 0) (fun _ => 0) (updN (fun _ => 0) (0) (0)) (fun _ => 0) (fun _ => 0) (fun _ => 0) (fun _ => 0) (updN (fun _ => 0) (0) (2 ^ 0)) (fun _ => 0) (fun _ => 0) (fun _ => 0) (wrT (updZ (fun _ => 0) 0 (-1000)) 1 (fun _ => 0) (fun _ => 0) (fun _ => 0) (updN (fun _ => 0) (0) (0)) (fun _ => 0) (fun _ => 0) (fun _ => 0) (fun _ => 0) (updN (fun _ => 0) (0) (2 ^ 0)) (updZ (fun _ => 0) (0) (-1)) (updZ (fun _ => 0) (0) (-1)) (fun _ => 0) 0) (fun _ => 0) (fun _ => 0) (fun _ => 0) (fun _ => 0) 0 1 (0 + 1) 1 0 0 (fun _ => 0) (fun _ => 0) rel_0
  refine v_lv (lv' := [(0, .ref (b)), (1, .ref (q_1)), (2, .ref (q_4)), (3, .ref (q_7)), (4, .ref (q_8)), (5, .int (iI ((4 * 0 : Nat) : Int)))]) [5, 4, 3, 2, 1, 0] rfl ?_
  exact h9
