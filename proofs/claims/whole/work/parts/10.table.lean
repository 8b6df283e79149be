abbrev wTab (g : vG) (a : Nat) (p : Nat) (lo : Nat) (hi : Nat) (T : Nat → Nat) (U : Nat → Nat) : va_W := [cO a 4 [.ref (p), .ref (lo), .ref (hi)], cL g lo 1224 (xl T), cL g hi 1224 (xh U)]
abbrev wPal (g : vG) (a : Nat) (v : Nat) (r : Nat) (vals : Nat → Int) (ris : Nat → Nat) (cnt : Nat) : va_W := [cO a 1 [.ref (v), .ref (r), .int (iI ((cnt : Nat) : Int))], cI g v 100 vals, cIn g r 100 ris]
set_option maxHeartbeats 4000000 in
set_option maxRecDepth 100000 in
theorem kX4_cell (l : Launch) (g : vG) {r0 i0 : Nat}  : mI l g yX4_cell wsX4_cell ({ frames := 0, cells := 0, slots := 0, locals := 0 }) [.int (iI ((r0 : Nat) : Int)), .int (iI ((i0 : Nat) : Int))] ([]) (fun _ : Unit => []) (fun v _ => v = iI ((12 * r0 + i0 : Nat) : Int)) 0 0 := by
  refine mI_of (cc := cX4_cell) (maxL := 2) (ret := (some .int)) (own := RX4) (by decide) rfl rfl (Nat.le_of_ble_eq_true rfl) ?_
  intro p e s m args below meth c A C hr hl hin
  refine v_iload_n C dX4_cell_0 rfl 0 rfl ?_
  refine v_bipush C (z := 12) dX4_cell_1 rfl ?_
  refine v_imul C dX4_cell_3 ?_
  refine v_iload_n C dX4_cell_4 rfl 1 rfl ?_
  refine v_iadd C dX4_cell_5 ?_
  exact (v_iret C hr hl () (by decide) (by decide) rfl (congrArg iI (by omega)) dX4_cell_6)
theorem inX4_holdSide_4 : ∀ w ∈ u_ws RX4 TX4 3, w ∈ wsX4_holdSide := by decide +kernel
theorem lkX4_holdSide_15 : Cond.fieldLink RX4 15 "MergeAtelier$Table" "low" "[J" ∈ wsX4_holdSide := by decide +kernel
theorem iniX4_holdSide_X5 : Cond.initialized RX5 ∈ wsX4_holdSide := by decide +kernel
theorem staX4_holdSide_lowBit : Cond.static yX5_lowBit ∈ wsX4_holdSide := by decide +kernel
theorem lkX4_holdSide_19 : Cond.fieldLink RX4 19 "MergeAtelier$Table" "high" "[J" ∈ wsX4_holdSide := by decide +kernel
theorem staX4_holdSide_highBit : Cond.static yX5_highBit ∈ wsX4_holdSide := by decide +kernel
set_option maxHeartbeats 4000000 in
set_option maxRecDepth 100000 in
theorem kX4_holdSide (l : Launch) (g : vG) {ta tp tlo thi : Nat} {T : Nat → Nat} {r0 i0 sd : Nat} (hr0 : r0 < 102) (hi0 : i0 < 12) (hsd : sd < 128) : mV l g yX4_holdSide wsX4_holdSide ({ frames := 1, cells := 0, slots := 0, locals := 21 }) [.ref (ta), .int (iI ((r0 : Nat) : Int)), .int (iI ((i0 : Nat) : Int)), .int (iI ((sd : Nat) : Int))] (wTab g ta tp tlo thi T T ++ ([])) (fun _ : Unit => wTab g ta tp tlo thi (updN T (12 * r0 + i0) (2 ^ sd)) (updN T (12 * r0 + i0) (2 ^ sd)) ++ ([])) (fun _ => True) 0 0 := by
  refine mV_of (cc := cX4_holdSide) (maxL := 5) (ret := none) (own := RX4) (by decide) rfl rfl (Nat.le_of_ble_eq_true rfl) ?_
  intro p e s m args below meth c A C hr hl hin
  refine v_iload_n C dX4_holdSide_0 rfl 1 rfl ?_
  refine v_iload_n C dX4_holdSide_1 rfl 2 rfl ?_
  refine v_invSI C (As := [.int (iI ((r0 : Nat) : Int)), .int (iI ((i0 : Nat) : Int))]) (kX4_cell l g (r0 := r0) (i0 := i0)) (cwS 2 C.2.2.2.2.1 gX4_holdSide_X4_cell rfl rfl rfl (by decide +kernel) ⟨Nat.le_of_ble_eq_true rfl, Nat.le_of_ble_eq_true rfl⟩) [wTab g ta tp tlo thi T T] [] [0] [] (fun _ => [wTab g ta tp tlo thi T T]) (fun _ => wTab g ta tp tlo thi T T ++ ([])) rfl rfl rfl (fun _ => rfl) (fun _ => rfl) (fun _ => rfl) (fun _ => rfl) rfl rfl (Nat.le_of_ble_eq_true rfl) dX4_holdSide_2 ⟨by decide, by decide⟩ (fun r_2 _ h_1 => ?_)
  subst h_1
  refine v_istore C [(4, .int (iI ((12 * r0 + i0 : Nat) : Int))), (0, .ref (ta)), (1, .int (iI ((r0 : Nat) : Int))), (2, .int (iI ((i0 : Nat) : Int))), (3, .int (iI ((sd : Nat) : Int)))] dX4_holdSide_5 (by decide) rfl ?_
  refine v_aload_n C dX4_holdSide_7 rfl 1 rfl ?_
  refine v_get C 0 (kf := 1) rfl rfl (by decide) inX4_holdSide_4 lkX4_holdSide_15 rfl rfl dX4_holdSide_8 ?_
  refine v_iload C dX4_holdSide_11 0 rfl ?_
  refine v_iload_n C dX4_holdSide_13 rfl 4 rfl ?_
  refine v_invNL C (As := [.int (iI ((sd : Nat) : Int))]) (kX5_lowBit l g (n := sd) (by omega)) ⟨va_cnB 1 C.2.2.2.2.1 gX4_holdSide_X5_lowBit_n38 rfl rfl rfl C.2.2.2.2.2.1.2.2.2.2.1 (C.2.2.2.2.1 _ iniX4_holdSide_X5) (by decide +kernel) ⟨Nat.le_of_ble_eq_true rfl, Nat.le_of_ble_eq_true rfl⟩, C.2.2.2.2.1 _ staX4_holdSide_lowBit, trivial⟩ [wTab g ta tp tlo thi T T] [] [0] [.int (iI ((12 * r0 + i0 : Nat) : Int)), .ref (tlo)] (fun _ => [wTab g ta tp tlo thi T T]) (fun _ => wTab g ta tp tlo thi T T ++ ([])) rfl rfl rfl (fun _ => rfl) (fun _ => rfl) (fun _ => rfl) (fun _ => rfl) rfl rfl (Nat.le_of_ble_eq_true rfl) dX4_holdSide_14 ⟨by decide, by decide⟩ (fun r_4 _ h_3 => ?_)
  subst h_3
  refine v_last C 1 (12 * r0 + i0) (xl (updN T (12 * r0 + i0) (2 ^ sd))) (wTab g ta tp tlo thi (updN T (12 * r0 + i0) (2 ^ sd)) T ++ ([])) rfl rfl (by omega) (by decide) dX4_holdSide_17 (xl_upd _ _ _) rfl ?_
  refine v_aload_n C dX4_holdSide_18 rfl 1 rfl ?_
  refine v_get C 0 (kf := 2) rfl rfl (by decide) inX4_holdSide_4 lkX4_holdSide_19 rfl rfl dX4_holdSide_19 ?_
  refine v_iload C dX4_holdSide_22 0 rfl ?_
  refine v_iload_n C dX4_holdSide_24 rfl 4 rfl ?_
  refine v_invNL C (As := [.int (iI ((sd : Nat) : Int))]) (kX5_highBit l g (n := sd) (by omega)) ⟨va_cnB 1 C.2.2.2.2.1 gX4_holdSide_X5_highBit_n42 rfl rfl rfl C.2.2.2.2.2.1.2.2.2.2.2.1 (C.2.2.2.2.1 _ iniX4_holdSide_X5) (by decide +kernel) ⟨Nat.le_of_ble_eq_true rfl, Nat.le_of_ble_eq_true rfl⟩, C.2.2.2.2.1 _ staX4_holdSide_highBit, trivial⟩ [wTab g ta tp tlo thi (updN T (12 * r0 + i0) (2 ^ sd)) T] [] [0] [.int (iI ((12 * r0 + i0 : Nat) : Int)), .ref (thi)] (fun _ => [wTab g ta tp tlo thi (updN T (12 * r0 + i0) (2 ^ sd)) T]) (fun _ => wTab g ta tp tlo thi (updN T (12 * r0 + i0) (2 ^ sd)) T ++ ([])) rfl rfl rfl (fun _ => rfl) (fun _ => rfl) (fun _ => rfl) (fun _ => rfl) rfl rfl (Nat.le_of_ble_eq_true rfl) dX4_holdSide_25 ⟨by decide, by decide⟩ (fun r_6 _ h_5 => ?_)
  subst h_5
  refine v_last C 2 (12 * r0 + i0) (xh (updN T (12 * r0 + i0) (2 ^ sd))) (wTab g ta tp tlo thi (updN T (12 * r0 + i0) (2 ^ sd)) (updN T (12 * r0 + i0) (2 ^ sd)) ++ ([])) rfl rfl (by omega) (by decide) dX4_holdSide_28 (xh_upd _ _ _) rfl ?_
  exact (v_vret C hr hl () (by decide) (by decide) rfl trivial dX4_holdSide_29)
theorem inX4_holdWhat_4 : ∀ w ∈ u_ws RX4 TX4 3, w ∈ wsX4_holdWhat := by decide +kernel
theorem lkX4_holdWhat_15 : Cond.fieldLink RX4 15 "MergeAtelier$Table" "low" "[J" ∈ wsX4_holdWhat := by decide +kernel
theorem lkX4_holdWhat_19 : Cond.fieldLink RX4 19 "MergeAtelier$Table" "high" "[J" ∈ wsX4_holdWhat := by decide +kernel
set_option maxHeartbeats 4000000 in
set_option maxRecDepth 100000 in
theorem kX4_holdWhat (l : Launch) (g : vG) {ta tp tlo thi : Nat} {T : Nat → Nat} {r0 i0 f0 : Nat} (hr0 : r0 < 102) (hi0 : i0 < 12) (hf0 : f0 < 102) : mV l g yX4_holdWhat wsX4_holdWhat ({ frames := 1, cells := 0, slots := 0, locals := 21 }) [.ref (ta), .int (iI ((r0 : Nat) : Int)), .int (iI ((i0 : Nat) : Int)), .int (iI ((f0 : Nat) : Int))] (wTab g ta tp tlo thi T T ++ ([])) (fun _ : Unit => wTab g ta tp tlo thi (updN T (12 * r0 + i0) (T (12 * f0 + i0))) (updN T (12 * r0 + i0) (T (12 * f0 + i0))) ++ ([])) (fun _ => True) 0 0 := by
  refine mV_of (cc := cX4_holdWhat) (maxL := 6) (ret := none) (own := RX4) (by decide) rfl rfl (Nat.le_of_ble_eq_true rfl) ?_
  intro p e s m args below meth c A C hr hl hin
  refine v_iload_n C dX4_holdWhat_0 rfl 1 rfl ?_
  refine v_iload_n C dX4_holdWhat_1 rfl 2 rfl ?_
  refine v_invSI C (As := [.int (iI ((r0 : Nat) : Int)), .int (iI ((i0 : Nat) : Int))]) (kX4_cell l g (r0 := r0) (i0 := i0)) (cwS 2 C.2.2.2.2.1 gX4_holdWhat_X4_cell rfl rfl rfl (by decide +kernel) ⟨Nat.le_of_ble_eq_true rfl, Nat.le_of_ble_eq_true rfl⟩) [wTab g ta tp tlo thi T T] [] [0] [] (fun _ => [wTab g ta tp tlo thi T T]) (fun _ => wTab g ta tp tlo thi T T ++ ([])) rfl rfl rfl (fun _ => rfl) (fun _ => rfl) (fun _ => rfl) (fun _ => rfl) rfl rfl (Nat.le_of_ble_eq_true rfl) dX4_holdWhat_2 ⟨by decide, by decide⟩ (fun r_2 _ h_1 => ?_)
  subst h_1
  refine v_istore C [(4, .int (iI ((12 * r0 + i0 : Nat) : Int))), (0, .ref (ta)), (1, .int (iI ((r0 : Nat) : Int))), (2, .int (iI ((i0 : Nat) : Int))), (3, .int (iI ((f0 : Nat) : Int)))] dX4_holdWhat_5 (by decide) rfl ?_
  refine v_iload_n C dX4_holdWhat_7 rfl 4 rfl ?_
  refine v_iload_n C dX4_holdWhat_8 rfl 3 rfl ?_
  refine v_invSI C (As := [.int (iI ((f0 : Nat) : Int)), .int (iI ((i0 : Nat) : Int))]) (kX4_cell l g (r0 := f0) (i0 := i0)) (cwS 2 C.2.2.2.2.1 gX4_holdWhat_X4_cell rfl rfl rfl (by decide +kernel) ⟨Nat.le_of_ble_eq_true rfl, Nat.le_of_ble_eq_true rfl⟩) [wTab g ta tp tlo thi T T] [] [0] [] (fun _ => [wTab g ta tp tlo thi T T]) (fun _ => wTab g ta tp tlo thi T T ++ ([])) rfl rfl rfl (fun _ => rfl) (fun _ => rfl) (fun _ => rfl) (fun _ => rfl) rfl rfl (Nat.le_of_ble_eq_true rfl) dX4_holdWhat_9 ⟨by decide, by decide⟩ (fun r_4 _ h_3 => ?_)
  subst h_3
  refine v_istore C [(5, .int (iI ((12 * f0 + i0 : Nat) : Int))), (4, .int (iI ((12 * r0 + i0 : Nat) : Int))), (0, .ref (ta)), (1, .int (iI ((r0 : Nat) : Int))), (2, .int (iI ((i0 : Nat) : Int))), (3, .int (iI ((f0 : Nat) : Int)))] dX4_holdWhat_12 (by decide) rfl ?_
  refine v_aload_n C dX4_holdWhat_14 rfl 2 rfl ?_
  refine v_get C 0 (kf := 1) rfl rfl (by decide) inX4_holdWhat_4 lkX4_holdWhat_15 rfl rfl dX4_holdWhat_15 ?_
  refine v_iload C dX4_holdWhat_18 1 rfl ?_
  refine v_aload_n C dX4_holdWhat_20 rfl 2 rfl ?_
  refine v_get C 0 (kf := 1) rfl rfl (by decide) inX4_holdWhat_4 lkX4_holdWhat_15 rfl rfl dX4_holdWhat_21 ?_
  refine v_iload C dX4_holdWhat_24 0 rfl ?_
  refine v_lald C 1 (12 * f0 + i0) rfl rfl (by omega) (by decide) dX4_holdWhat_26 ?_
  refine v_last C 1 (12 * r0 + i0) (xl (updN T (12 * r0 + i0) (T (12 * f0 + i0)))) (wTab g ta tp tlo thi (updN T (12 * r0 + i0) (T (12 * f0 + i0))) T ++ ([])) rfl rfl (by omega) (by decide) dX4_holdWhat_27 (xl_upd _ _ _) rfl ?_
  refine v_aload_n C dX4_holdWhat_28 rfl 2 rfl ?_
  refine v_get C 0 (kf := 2) rfl rfl (by decide) inX4_holdWhat_4 lkX4_holdWhat_19 rfl rfl dX4_holdWhat_29 ?_
  refine v_iload C dX4_holdWhat_32 1 rfl ?_
  refine v_aload_n C dX4_holdWhat_34 rfl 2 rfl ?_
  refine v_get C 0 (kf := 2) rfl rfl (by decide) inX4_holdWhat_4 lkX4_holdWhat_19 rfl rfl dX4_holdWhat_35 ?_
  refine v_iload C dX4_holdWhat_38 0 rfl ?_
  refine v_lald C 2 (12 * f0 + i0) rfl rfl (by omega) (by decide) dX4_holdWhat_40 ?_
  refine v_last C 2 (12 * r0 + i0) (xh (updN T (12 * r0 + i0) (T (12 * f0 + i0)))) (wTab g ta tp tlo thi (updN T (12 * r0 + i0) (T (12 * f0 + i0))) (updN T (12 * r0 + i0) (T (12 * f0 + i0))) ++ ([])) rfl rfl (by omega) (by decide) dX4_holdWhat_41 (xh_upd _ _ _) rfl ?_
  exact (v_vret C hr hl () (by decide) (by decide) rfl trivial dX4_holdWhat_42)
theorem inX4_holdAll_4 : ∀ w ∈ u_ws RX4 TX4 3, w ∈ wsX4_holdAll := by decide +kernel
theorem lkX4_holdAll_15 : Cond.fieldLink RX4 15 "MergeAtelier$Table" "low" "[J" ∈ wsX4_holdAll := by decide +kernel
theorem lkX4_holdAll_19 : Cond.fieldLink RX4 19 "MergeAtelier$Table" "high" "[J" ∈ wsX4_holdAll := by decide +kernel
set_option maxHeartbeats 4000000 in
set_option maxRecDepth 100000 in
theorem kX4_holdAll (l : Launch) (g : vG) {ta tp tlo thi : Nat} {T : Nat → Nat} {r0 i0 f0 f1 : Nat} (hr0 : r0 < 102) (hi0 : i0 < 12) (hf0 : f0 < 102) (hf1 : f1 < 102) : mV l g yX4_holdAll wsX4_holdAll ({ frames := 1, cells := 0, slots := 0, locals := 21 }) [.ref (ta), .int (iI ((r0 : Nat) : Int)), .int (iI ((i0 : Nat) : Int)), .int (iI ((f0 : Nat) : Int)), .int (iI ((f1 : Nat) : Int))] (wTab g ta tp tlo thi T T ++ ([])) (fun _ : Unit => wTab g ta tp tlo thi (updN T (12 * r0 + i0) (T (12 * f0 + i0) ||| T (12 * f1 + i0))) (updN T (12 * r0 + i0) (T (12 * f0 + i0) ||| T (12 * f1 + i0))) ++ ([])) (fun _ => True) 0 0 := by
  refine mV_of (cc := cX4_holdAll) (maxL := 8) (ret := none) (own := RX4) (by decide) rfl rfl (Nat.le_of_ble_eq_true rfl) ?_
  intro p e s m args below meth c A C hr hl hin
  refine v_iload_n C dX4_holdAll_0 rfl 1 rfl ?_
  refine v_iload_n C dX4_holdAll_1 rfl 2 rfl ?_
  refine v_invSI C (As := [.int (iI ((r0 : Nat) : Int)), .int (iI ((i0 : Nat) : Int))]) (kX4_cell l g (r0 := r0) (i0 := i0)) (cwS 2 C.2.2.2.2.1 gX4_holdAll_X4_cell rfl rfl rfl (by decide +kernel) ⟨Nat.le_of_ble_eq_true rfl, Nat.le_of_ble_eq_true rfl⟩) [wTab g ta tp tlo thi T T] [] [0] [] (fun _ => [wTab g ta tp tlo thi T T]) (fun _ => wTab g ta tp tlo thi T T ++ ([])) rfl rfl rfl (fun _ => rfl) (fun _ => rfl) (fun _ => rfl) (fun _ => rfl) rfl rfl (Nat.le_of_ble_eq_true rfl) dX4_holdAll_2 ⟨by decide, by decide⟩ (fun r_2 _ h_1 => ?_)
  subst h_1
  refine v_istore C [(5, .int (iI ((12 * r0 + i0 : Nat) : Int))), (0, .ref (ta)), (1, .int (iI ((r0 : Nat) : Int))), (2, .int (iI ((i0 : Nat) : Int))), (3, .int (iI ((f0 : Nat) : Int))), (4, .int (iI ((f1 : Nat) : Int)))] dX4_holdAll_5 (by decide) rfl ?_
  refine v_iload_n C dX4_holdAll_7 rfl 4 rfl ?_
  refine v_iload_n C dX4_holdAll_8 rfl 3 rfl ?_
  refine v_invSI C (As := [.int (iI ((f0 : Nat) : Int)), .int (iI ((i0 : Nat) : Int))]) (kX4_cell l g (r0 := f0) (i0 := i0)) (cwS 2 C.2.2.2.2.1 gX4_holdAll_X4_cell rfl rfl rfl (by decide +kernel) ⟨Nat.le_of_ble_eq_true rfl, Nat.le_of_ble_eq_true rfl⟩) [wTab g ta tp tlo thi T T] [] [0] [] (fun _ => [wTab g ta tp tlo thi T T]) (fun _ => wTab g ta tp tlo thi T T ++ ([])) rfl rfl rfl (fun _ => rfl) (fun _ => rfl) (fun _ => rfl) (fun _ => rfl) rfl rfl (Nat.le_of_ble_eq_true rfl) dX4_holdAll_9 ⟨by decide, by decide⟩ (fun r_4 _ h_3 => ?_)
  subst h_3
  refine v_istore C [(6, .int (iI ((12 * f0 + i0 : Nat) : Int))), (5, .int (iI ((12 * r0 + i0 : Nat) : Int))), (0, .ref (ta)), (1, .int (iI ((r0 : Nat) : Int))), (2, .int (iI ((i0 : Nat) : Int))), (3, .int (iI ((f0 : Nat) : Int))), (4, .int (iI ((f1 : Nat) : Int)))] dX4_holdAll_12 (by decide) rfl ?_
  refine v_iload C dX4_holdAll_14 6 rfl ?_
  refine v_iload_n C dX4_holdAll_16 rfl 4 rfl ?_
  refine v_invSI C (As := [.int (iI ((f1 : Nat) : Int)), .int (iI ((i0 : Nat) : Int))]) (kX4_cell l g (r0 := f1) (i0 := i0)) (cwS 2 C.2.2.2.2.1 gX4_holdAll_X4_cell rfl rfl rfl (by decide +kernel) ⟨Nat.le_of_ble_eq_true rfl, Nat.le_of_ble_eq_true rfl⟩) [wTab g ta tp tlo thi T T] [] [0] [] (fun _ => [wTab g ta tp tlo thi T T]) (fun _ => wTab g ta tp tlo thi T T ++ ([])) rfl rfl rfl (fun _ => rfl) (fun _ => rfl) (fun _ => rfl) (fun _ => rfl) rfl rfl (Nat.le_of_ble_eq_true rfl) dX4_holdAll_17 ⟨by decide, by decide⟩ (fun r_6 _ h_5 => ?_)
  subst h_5
  refine v_istore C [(7, .int (iI ((12 * f1 + i0 : Nat) : Int))), (6, .int (iI ((12 * f0 + i0 : Nat) : Int))), (5, .int (iI ((12 * r0 + i0 : Nat) : Int))), (0, .ref (ta)), (1, .int (iI ((r0 : Nat) : Int))), (2, .int (iI ((i0 : Nat) : Int))), (3, .int (iI ((f0 : Nat) : Int))), (4, .int (iI ((f1 : Nat) : Int)))] dX4_holdAll_20 (by decide) rfl ?_
  refine v_aload_n C dX4_holdAll_22 rfl 3 rfl ?_
  refine v_get C 0 (kf := 1) rfl rfl (by decide) inX4_holdAll_4 lkX4_holdAll_15 rfl rfl dX4_holdAll_23 ?_
  refine v_iload C dX4_holdAll_26 2 rfl ?_
  refine v_aload_n C dX4_holdAll_28 rfl 3 rfl ?_
  refine v_get C 0 (kf := 1) rfl rfl (by decide) inX4_holdAll_4 lkX4_holdAll_15 rfl rfl dX4_holdAll_29 ?_
  refine v_iload C dX4_holdAll_32 1 rfl ?_
  refine v_lald C 1 (12 * f0 + i0) rfl rfl (by omega) (by decide) dX4_holdAll_34 ?_
  refine v_aload_n C dX4_holdAll_35 rfl 3 rfl ?_
  refine v_get C 0 (kf := 1) rfl rfl (by decide) inX4_holdAll_4 lkX4_holdAll_15 rfl rfl dX4_holdAll_36 ?_
  refine v_iload C dX4_holdAll_39 0 rfl ?_
  refine v_lald C 1 (12 * f1 + i0) rfl rfl (by omega) (by decide) dX4_holdAll_41 ?_
  refine v_lor_lo C dX4_holdAll_42 ?_
  refine v_last C 1 (12 * r0 + i0) (xl (updN T (12 * r0 + i0) ((T (12 * f0 + i0)) ||| (T (12 * f1 + i0))))) (wTab g ta tp tlo thi (updN T (12 * r0 + i0) ((T (12 * f0 + i0)) ||| (T (12 * f1 + i0)))) T ++ ([])) rfl rfl (by omega) (by decide) dX4_holdAll_43 (xl_upd _ _ _) rfl ?_
  refine v_aload_n C dX4_holdAll_44 rfl 3 rfl ?_
  refine v_get C 0 (kf := 2) rfl rfl (by decide) inX4_holdAll_4 lkX4_holdAll_19 rfl rfl dX4_holdAll_45 ?_
  refine v_iload C dX4_holdAll_48 2 rfl ?_
  refine v_aload_n C dX4_holdAll_50 rfl 3 rfl ?_
  refine v_get C 0 (kf := 2) rfl rfl (by decide) inX4_holdAll_4 lkX4_holdAll_19 rfl rfl dX4_holdAll_51 ?_
  refine v_iload C dX4_holdAll_54 1 rfl ?_
  refine v_lald C 2 (12 * f0 + i0) rfl rfl (by omega) (by decide) dX4_holdAll_56 ?_
  refine v_aload_n C dX4_holdAll_57 rfl 3 rfl ?_
  refine v_get C 0 (kf := 2) rfl rfl (by decide) inX4_holdAll_4 lkX4_holdAll_19 rfl rfl dX4_holdAll_58 ?_
  refine v_iload C dX4_holdAll_61 0 rfl ?_
  refine v_lald C 2 (12 * f1 + i0) rfl rfl (by omega) (by decide) dX4_holdAll_63 ?_
  refine v_lor_hi C dX4_holdAll_64 ?_
  refine v_last C 2 (12 * r0 + i0) (xh (updN T (12 * r0 + i0) ((T (12 * f0 + i0)) ||| (T (12 * f1 + i0))))) (wTab g ta tp tlo thi (updN T (12 * r0 + i0) ((T (12 * f0 + i0)) ||| (T (12 * f1 + i0)))) (updN T (12 * r0 + i0) ((T (12 * f0 + i0)) ||| (T (12 * f1 + i0)))) ++ ([])) rfl rfl (by omega) (by decide) dX4_holdAll_65 (xh_upd _ _ _) rfl ?_
  exact (v_vret C hr hl () (by decide) (by decide) rfl trivial dX4_holdAll_66)
theorem inX4_holdsSame_4 : ∀ w ∈ u_ws RX4 TX4 3, w ∈ wsX4_holdsSame := by decide +kernel
theorem lkX4_holdsSame_15 : Cond.fieldLink RX4 15 "MergeAtelier$Table" "low" "[J" ∈ wsX4_holdsSame := by decide +kernel
theorem lkX4_holdsSame_19 : Cond.fieldLink RX4 19 "MergeAtelier$Table" "high" "[J" ∈ wsX4_holdsSame := by decide +kernel
set_option maxHeartbeats 4000000 in
set_option maxRecDepth 100000 in
theorem kX4_holdsSame (l : Launch) (g : vG) {ta tp tlo thi : Nat} {T : Nat → Nat} {r0 i0 f0 : Nat} (hr0 : r0 < 102) (hi0 : i0 < 12) (hf0 : f0 < 102) (hT : T128 T) : mI l g yX4_holdsSame wsX4_holdsSame ({ frames := 1, cells := 0, slots := 0, locals := 21 }) [.ref (ta), .int (iI ((i0 : Nat) : Int)), .int (iI ((r0 : Nat) : Int)), .int (iI ((f0 : Nat) : Int))] (wTab g ta tp tlo thi T T ++ ([])) (fun _ : Unit => wTab g ta tp tlo thi T T ++ ([])) (fun v _ => v = iI (bZ (decide (T (12 * r0 + i0) = T (12 * f0 + i0))))) 0 0 := by
  refine mI_of (cc := cX4_holdsSame) (maxL := 6) (ret := (some .boolean)) (own := RX4) (by decide) rfl rfl (Nat.le_of_ble_eq_true rfl) ?_
  intro p e s m args below meth c A C hr hl hin
  refine v_iload_n C dX4_holdsSame_0 rfl 2 rfl ?_
  refine v_iload_n C dX4_holdsSame_1 rfl 1 rfl ?_
  refine v_invSI C (As := [.int (iI ((r0 : Nat) : Int)), .int (iI ((i0 : Nat) : Int))]) (kX4_cell l g (r0 := r0) (i0 := i0)) (cwS 2 C.2.2.2.2.1 gX4_holdsSame_X4_cell rfl rfl rfl (by decide +kernel) ⟨Nat.le_of_ble_eq_true rfl, Nat.le_of_ble_eq_true rfl⟩) [wTab g ta tp tlo thi T T] [] [0] [] (fun _ => [wTab g ta tp tlo thi T T]) (fun _ => wTab g ta tp tlo thi T T ++ ([])) rfl rfl rfl (fun _ => rfl) (fun _ => rfl) (fun _ => rfl) (fun _ => rfl) rfl rfl (Nat.le_of_ble_eq_true rfl) dX4_holdsSame_2 ⟨by decide, by decide⟩ (fun r_2 _ h_1 => ?_)
  subst h_1
  refine v_istore C [(4, .int (iI ((12 * r0 + i0 : Nat) : Int))), (0, .ref (ta)), (1, .int (iI ((i0 : Nat) : Int))), (2, .int (iI ((r0 : Nat) : Int))), (3, .int (iI ((f0 : Nat) : Int)))] dX4_holdsSame_5 (by decide) rfl ?_
  refine v_iload_n C dX4_holdsSame_7 rfl 4 rfl ?_
  refine v_iload_n C dX4_holdsSame_8 rfl 2 rfl ?_
  refine v_invSI C (As := [.int (iI ((f0 : Nat) : Int)), .int (iI ((i0 : Nat) : Int))]) (kX4_cell l g (r0 := f0) (i0 := i0)) (cwS 2 C.2.2.2.2.1 gX4_holdsSame_X4_cell rfl rfl rfl (by decide +kernel) ⟨Nat.le_of_ble_eq_true rfl, Nat.le_of_ble_eq_true rfl⟩) [wTab g ta tp tlo thi T T] [] [0] [] (fun _ => [wTab g ta tp tlo thi T T]) (fun _ => wTab g ta tp tlo thi T T ++ ([])) rfl rfl rfl (fun _ => rfl) (fun _ => rfl) (fun _ => rfl) (fun _ => rfl) rfl rfl (Nat.le_of_ble_eq_true rfl) dX4_holdsSame_9 ⟨by decide, by decide⟩ (fun r_4 _ h_3 => ?_)
  subst h_3
  refine v_istore C [(5, .int (iI ((12 * f0 + i0 : Nat) : Int))), (4, .int (iI ((12 * r0 + i0 : Nat) : Int))), (0, .ref (ta)), (1, .int (iI ((i0 : Nat) : Int))), (2, .int (iI ((r0 : Nat) : Int))), (3, .int (iI ((f0 : Nat) : Int)))] dX4_holdsSame_12 (by decide) rfl ?_
  refine v_aload_n C dX4_holdsSame_14 rfl 2 rfl ?_
  refine v_get C 0 (kf := 1) rfl rfl (by decide) inX4_holdsSame_4 lkX4_holdsSame_15 rfl rfl dX4_holdsSame_15 ?_
  refine v_iload C dX4_holdsSame_18 1 rfl ?_
  refine v_lald C 1 (12 * r0 + i0) rfl rfl (by omega) (by decide) dX4_holdsSame_20 ?_
  refine v_aload_n C dX4_holdsSame_21 rfl 2 rfl ?_
  refine v_get C 0 (kf := 1) rfl rfl (by decide) inX4_holdsSame_4 lkX4_holdsSame_15 rfl rfl dX4_holdsSame_22 ?_
  refine v_iload C dX4_holdsSame_25 0 rfl ?_
  refine v_lald C 1 (12 * f0 + i0) rfl rfl (by omega) (by decide) dX4_holdsSame_27 ?_
  refine v_lcmp C dX4_holdsSame_28 ?_
  refine v_ifl_ne C 54 dX4_holdsSame_29 (by decide) (fun c_5 => ?_) (fun c_5 => ?_)
  ·
    refine v_iconst C (z := 0) dX4_holdsSame_54 ?_
    exact (v_zret C hr hl () rfl (by decide) (by decide) rfl (bz_df (fun x => c_5 (congrArg lN x))) dX4_holdsSame_55)
  ·
    refine v_aload_n C dX4_holdsSame_32 rfl 2 rfl ?_
    refine v_get C 0 (kf := 2) rfl rfl (by decide) inX4_holdsSame_4 lkX4_holdsSame_19 rfl rfl dX4_holdsSame_33 ?_
    refine v_iload C dX4_holdsSame_36 1 rfl ?_
    refine v_lald C 2 (12 * r0 + i0) rfl rfl (by omega) (by decide) dX4_holdsSame_38 ?_
    refine v_aload_n C dX4_holdsSame_39 rfl 2 rfl ?_
    refine v_get C 0 (kf := 2) rfl rfl (by decide) inX4_holdsSame_4 lkX4_holdsSame_19 rfl rfl dX4_holdsSame_40 ?_
    refine v_iload C dX4_holdsSame_43 0 rfl ?_
    refine v_lald C 2 (12 * f0 + i0) rfl rfl (by omega) (by decide) dX4_holdsSame_45 ?_
    refine v_lcmp C dX4_holdsSame_46 ?_
    refine v_ifl_ne C 54 dX4_holdsSame_47 (by decide) (fun c_6 => ?_) (fun c_6 => ?_)
    ·
      refine v_iconst C (z := 0) dX4_holdsSame_54 ?_
      exact (v_zret C hr hl () rfl (by decide) (by decide) rfl (bz_df (fun x => c_6 (congrArg hN x))) dX4_holdsSame_55)
    ·
      refine v_iconst C (z := 1) dX4_holdsSame_50 ?_
      refine v_goto C 55 dX4_holdsSame_51 (by decide) ?_
      exact (v_zret C hr hl () rfl (by decide) (by decide) rfl (bz_dt (two_eq (hT _) (hT _) c_5 c_6)) dX4_holdsSame_55)
theorem inX4_holdsNothingElse_4 : ∀ w ∈ u_ws RX4 TX4 3, w ∈ wsX4_holdsNothingElse := by decide +kernel
theorem lkX4_holdsNothingElse_15 : Cond.fieldLink RX4 15 "MergeAtelier$Table" "low" "[J" ∈ wsX4_holdsNothingElse := by decide +kernel
theorem iniX4_holdsNothingElse_X5 : Cond.initialized RX5 ∈ wsX4_holdsNothingElse := by decide +kernel
theorem staX4_holdsNothingElse_lowBit : Cond.static yX5_lowBit ∈ wsX4_holdsNothingElse := by decide +kernel
theorem lkX4_holdsNothingElse_19 : Cond.fieldLink RX4 19 "MergeAtelier$Table" "high" "[J" ∈ wsX4_holdsNothingElse := by decide +kernel
set_option maxHeartbeats 4000000 in
set_option maxRecDepth 100000 in
theorem kX4_holdsNothingElse (l : Launch) (g : vG) {ta tp tlo thi : Nat} {T : Nat → Nat} {r0 i0 : Nat} (hr0 : r0 < 102) (hi0 : i0 < 12) (hT : T128 T) : mI l g yX4_holdsNothingElse wsX4_holdsNothingElse ({ frames := 1, cells := 0, slots := 0, locals := 21 }) [.ref (ta), .int (iI ((r0 : Nat) : Int)), .int (iI ((i0 : Nat) : Int))] (wTab g ta tp tlo thi T T ++ ([])) (fun _ : Unit => wTab g ta tp tlo thi T T ++ ([])) (fun v _ => v = iI (bZ (decide (T (12 * r0 + i0) = 1)))) 0 0 := by
  refine mI_of (cc := cX4_holdsNothingElse) (maxL := 4) (ret := (some .boolean)) (own := RX4) (by decide) rfl rfl (Nat.le_of_ble_eq_true rfl) ?_
  intro p e s m args below meth c A C hr hl hin
  refine v_iload_n C dX4_holdsNothingElse_0 rfl 1 rfl ?_
  refine v_iload_n C dX4_holdsNothingElse_1 rfl 2 rfl ?_
  refine v_invSI C (As := [.int (iI ((r0 : Nat) : Int)), .int (iI ((i0 : Nat) : Int))]) (kX4_cell l g (r0 := r0) (i0 := i0)) (cwS 2 C.2.2.2.2.1 gX4_holdsNothingElse_X4_cell rfl rfl rfl (by decide +kernel) ⟨Nat.le_of_ble_eq_true rfl, Nat.le_of_ble_eq_true rfl⟩) [wTab g ta tp tlo thi T T] [] [0] [] (fun _ => [wTab g ta tp tlo thi T T]) (fun _ => wTab g ta tp tlo thi T T ++ ([])) rfl rfl rfl (fun _ => rfl) (fun _ => rfl) (fun _ => rfl) (fun _ => rfl) rfl rfl (Nat.le_of_ble_eq_true rfl) dX4_holdsNothingElse_2 ⟨by decide, by decide⟩ (fun r_2 _ h_1 => ?_)
  subst h_1
  refine v_istore_n C [(3, .int (iI ((12 * r0 + i0 : Nat) : Int))), (0, .ref (ta)), (1, .int (iI ((r0 : Nat) : Int))), (2, .int (iI ((i0 : Nat) : Int)))] dX4_holdsNothingElse_5 rfl (by decide) rfl ?_
  refine v_aload_n C dX4_holdsNothingElse_6 rfl 1 rfl ?_
  refine v_get C 0 (kf := 1) rfl rfl (by decide) inX4_holdsNothingElse_4 lkX4_holdsNothingElse_15 rfl rfl dX4_holdsNothingElse_7 ?_
  refine v_iload_n C dX4_holdsNothingElse_10 rfl 0 rfl ?_
  refine v_lald C 1 (12 * r0 + i0) rfl rfl (by omega) (by decide) dX4_holdsNothingElse_11 ?_
  refine v_iconst C (z := 0) dX4_holdsNothingElse_12 ?_
  refine v_invNL C (As := [.int (iI (0))]) (kX5_lowBit l g (n := 0) (by omega)) ⟨va_cnB 1 C.2.2.2.2.1 gX4_holdsNothingElse_X5_lowBit_n38 rfl rfl rfl C.2.2.2.2.2.1.2.2.2.2.1 (C.2.2.2.2.1 _ iniX4_holdsNothingElse_X5) (by decide +kernel) ⟨Nat.le_of_ble_eq_true rfl, Nat.le_of_ble_eq_true rfl⟩, C.2.2.2.2.1 _ staX4_holdsNothingElse_lowBit, trivial⟩ [wTab g ta tp tlo thi T T] [] [0] [.long (lN (T (12 * r0 + i0)))] (fun _ => [wTab g ta tp tlo thi T T]) (fun _ => wTab g ta tp tlo thi T T ++ ([])) rfl rfl rfl (fun _ => rfl) (fun _ => rfl) (fun _ => rfl) (fun _ => rfl) rfl rfl (Nat.le_of_ble_eq_true rfl) dX4_holdsNothingElse_13 ⟨by decide, by decide⟩ (fun r_4 _ h_3 => ?_)
  subst h_3
  refine v_lcmp C dX4_holdsNothingElse_16 ?_
  refine v_ifl_ne C 35 dX4_holdsNothingElse_17 (by decide) (fun c_5 => ?_) (fun c_5 => ?_)
  ·
    refine v_iconst C (z := 0) dX4_holdsNothingElse_35 ?_
    exact (v_zret C hr hl () rfl (by decide) (by decide) rfl (bz_df (fun x => c_5 (congrArg lN x))) dX4_holdsNothingElse_36)
  ·
    refine v_aload_n C dX4_holdsNothingElse_20 rfl 1 rfl ?_
    refine v_get C 0 (kf := 2) rfl rfl (by decide) inX4_holdsNothingElse_4 lkX4_holdsNothingElse_19 rfl rfl dX4_holdsNothingElse_21 ?_
    refine v_iload_n C dX4_holdsNothingElse_24 rfl 0 rfl ?_
    refine v_lald C 2 (12 * r0 + i0) rfl rfl (by omega) (by decide) dX4_holdsNothingElse_25 ?_
    refine v_lconst C (v := lN 0) dX4_holdsNothingElse_26 rfl ?_
    refine v_lcmp C dX4_holdsNothingElse_27 ?_
    refine v_ifl_ne C 35 dX4_holdsNothingElse_28 (by decide) (fun c_6 => ?_) (fun c_6 => ?_)
    ·
      refine v_iconst C (z := 0) dX4_holdsNothingElse_35 ?_
      exact (v_zret C hr hl () rfl (by decide) (by decide) rfl (bz_df (fun x => c_6 (congrArg hN x))) dX4_holdsNothingElse_36)
    ·
      refine v_iconst C (z := 1) dX4_holdsNothingElse_31 ?_
      refine v_goto C 36 dX4_holdsNothingElse_32 (by decide) ?_
      exact (v_zret C hr hl () rfl (by decide) (by decide) rfl (bz_dt (two_eq (hT _) (by decide) c_5 c_6)) dX4_holdsNothingElse_36)
/-- how many numbers below 128 are in a set -/
def cnt (S : Nat) : Nat := fb_ct (fun j => S.testBit j) 128
theorem cnt_le (S : Nat) : cnt S ≤ 128 := fb_ct_le _ _
theorem cnt31 (S : Nat) : b31 ((cnt S : Nat) : Int) := ⟨by have := cnt_le S; omega, by have := cnt_le S; omega⟩
theorem cnt_halves (S : Nat) : fb_ct (fun j => S.testBit j) 64 + fb_ct (fun j => (S >>> 64).testBit j) 64 = cnt S := by
  unfold cnt
  refine Eq.trans ?_ (fb_ct_split (fun j => S.testBit j) 64 64).symm
  refine congrArg (fb_ct (fun j => S.testBit j) 64 + ·) (fb_ct_cong fun k hk => ?_)
  exact Nat.testBit_shiftRight S
theorem kJ13_bc (l : Launch) (g : vG) (n : Nat) : mI l g yJ13_bitCount_95d88 wsJ13_bitCount_95d88 ({ frames := 0, cells := 0, slots := 0, locals := 0 }) [.long (lN n)] ([]) (fun _ : Unit => []) (fun v _ => v = iI ((fb_ct (fun j => n.testBit j) 64 : Nat) : Int)) 0 0 := by
  have h := kJ13_bitCount_95d88 l g (n := n % 2 ^ 64) (Nat.mod_lt _ (by decide))
  rw [← wb_mod n] at h
  have e : fb_ct (fun j => (n % 2 ^ 64).testBit j) 64 = fb_ct (fun j => n.testBit j) 64 := by
    refine fb_ct_cong fun k hk => ?_
    show (n % 2 ^ 64).testBit k = n.testBit k
    rw [Nat.testBit_mod_two_pow]
    simp [hk]
  rw [e] at h
  exact h
theorem cnt_pow : ∀ n : Nat, n < 128 → cnt (2 ^ n) = 1 := by decide +kernel
theorem inX4_sideCount_4 : ∀ w ∈ u_ws RX4 TX4 3, w ∈ wsX4_sideCount := by decide +kernel
theorem lkX4_sideCount_15 : Cond.fieldLink RX4 15 "MergeAtelier$Table" "low" "[J" ∈ wsX4_sideCount := by decide +kernel
theorem lkX4_sideCount_19 : Cond.fieldLink RX4 19 "MergeAtelier$Table" "high" "[J" ∈ wsX4_sideCount := by decide +kernel
set_option maxHeartbeats 4000000 in
set_option maxRecDepth 100000 in
theorem kX4_sideCount (l : Launch) (g : vG) {ta tp tlo thi : Nat} {T : Nat → Nat} {r0 i0 : Nat} (hr0 : r0 < 102) (hi0 : i0 < 12) : mI l g yX4_sideCount wsX4_sideCount ({ frames := 1, cells := 0, slots := 0, locals := 21 }) [.ref (ta), .int (iI ((r0 : Nat) : Int)), .int (iI ((i0 : Nat) : Int))] (wTab g ta tp tlo thi T T ++ ([])) (fun _ : Unit => wTab g ta tp tlo thi T T ++ ([])) (fun v _ => v = iI ((cnt (T (12 * r0 + i0)) : Nat) : Int)) 0 0 := by
  refine mI_of (cc := cX4_sideCount) (maxL := 4) (ret := (some .int)) (own := RX4) (by decide) rfl rfl (Nat.le_of_ble_eq_true rfl) ?_
  intro p e s m args below meth c A C hr hl hin
  refine v_iload_n C dX4_sideCount_0 rfl 1 rfl ?_
  refine v_iload_n C dX4_sideCount_1 rfl 2 rfl ?_
  refine v_invSI C (As := [.int (iI ((r0 : Nat) : Int)), .int (iI ((i0 : Nat) : Int))]) (kX4_cell l g (r0 := r0) (i0 := i0)) (cwS 2 C.2.2.2.2.1 gX4_sideCount_X4_cell rfl rfl rfl (by decide +kernel) ⟨Nat.le_of_ble_eq_true rfl, Nat.le_of_ble_eq_true rfl⟩) [wTab g ta tp tlo thi T T] [] [0] [] (fun _ => [wTab g ta tp tlo thi T T]) (fun _ => wTab g ta tp tlo thi T T ++ ([])) rfl rfl rfl (fun _ => rfl) (fun _ => rfl) (fun _ => rfl) (fun _ => rfl) rfl rfl (Nat.le_of_ble_eq_true rfl) dX4_sideCount_2 ⟨by decide, by decide⟩ (fun r_2 _ h_1 => ?_)
  subst h_1
  refine v_istore_n C [(3, .int (iI ((12 * r0 + i0 : Nat) : Int))), (0, .ref (ta)), (1, .int (iI ((r0 : Nat) : Int))), (2, .int (iI ((i0 : Nat) : Int)))] dX4_sideCount_5 rfl (by decide) rfl ?_
  refine v_aload_n C dX4_sideCount_6 rfl 1 rfl ?_
  refine v_get C 0 (kf := 1) rfl rfl (by decide) inX4_sideCount_4 lkX4_sideCount_15 rfl rfl dX4_sideCount_7 ?_
  refine v_iload_n C dX4_sideCount_10 rfl 0 rfl ?_
  refine v_lald C 1 (12 * r0 + i0) rfl rfl (by omega) (by decide) dX4_sideCount_11 ?_
  refine v_invSI C (As := [.long (lN (T (12 * r0 + i0)))]) (kJ13_bc l g (T (12 * r0 + i0))) (va_cwS 1 C.2.2.2.2.1 gX4_sideCount_J13_bitCount_95d88 rfl rfl rfl (by decide +kernel) ⟨Nat.le_of_ble_eq_true rfl, Nat.le_of_ble_eq_true rfl⟩) [wTab g ta tp tlo thi T T] [] [0] [] (fun _ => [wTab g ta tp tlo thi T T]) (fun _ => wTab g ta tp tlo thi T T ++ ([])) rfl rfl rfl (fun _ => rfl) (fun _ => rfl) (fun _ => rfl) (fun _ => rfl) rfl rfl (Nat.le_of_ble_eq_true rfl) dX4_sideCount_12 ⟨by decide, by decide⟩ (fun r_4 _ h_3 => ?_)
  subst h_3
  refine v_aload_n C dX4_sideCount_15 rfl 1 rfl ?_
  refine v_get C 0 (kf := 2) rfl rfl (by decide) inX4_sideCount_4 lkX4_sideCount_19 rfl rfl dX4_sideCount_16 ?_
  refine v_iload_n C dX4_sideCount_19 rfl 0 rfl ?_
  refine v_lald C 2 (12 * r0 + i0) rfl rfl (by omega) (by decide) dX4_sideCount_20 ?_
  refine v_invSI C (As := [.long (hN (T (12 * r0 + i0)))]) (kJ13_bc l g ((T (12 * r0 + i0)) >>> 64)) (va_cwS 1 C.2.2.2.2.1 gX4_sideCount_J13_bitCount_95d88 rfl rfl rfl (by decide +kernel) ⟨Nat.le_of_ble_eq_true rfl, Nat.le_of_ble_eq_true rfl⟩) [wTab g ta tp tlo thi T T] [] [0] [.int (iI ((fb_ct (fun j => (T (12 * r0 + i0)).testBit j) 64 : Nat) : Int))] (fun _ => [wTab g ta tp tlo thi T T]) (fun _ => wTab g ta tp tlo thi T T ++ ([])) rfl rfl rfl (fun _ => rfl) (fun _ => rfl) (fun _ => rfl) (fun _ => rfl) rfl rfl (Nat.le_of_ble_eq_true rfl) dX4_sideCount_21 ⟨by decide, by decide⟩ (fun r_6 _ h_5 => ?_)
  subst h_5
  refine v_iadd C dX4_sideCount_24 ?_
  rw [show (((fb_ct (fun j => (T (12 * r0 + i0)).testBit j) 64 : Nat) : Int)) + (((fb_ct (fun j => ((T (12 * r0 + i0)) >>> 64).testBit j) 64 : Nat) : Int)) = (((fb_ct (fun j => (T (12 * r0 + i0)).testBit j) 64) + (fb_ct (fun j => ((T (12 * r0 + i0)) >>> 64).testBit j) 64) : Nat) : Int) from rfl]
  exact (v_iret C hr hl () (by decide) (by decide) rfl (by rw [← cnt_halves]) dX4_sideCount_25)
set_option maxHeartbeats 4000000 in
set_option maxRecDepth 100000 in
theorem kX4_holdsConflict (l : Launch) (g : vG) {ta tp tlo thi : Nat} {T : Nat → Nat} {r0 i0 : Nat} (hr0 : r0 < 102) (hi0 : i0 < 12) : mI l g yX4_holdsConflict wsX4_holdsConflict ({ frames := 2, cells := 0, slots := 0, locals := 44 }) [.ref (ta), .int (iI ((r0 : Nat) : Int)), .int (iI ((i0 : Nat) : Int))] (wTab g ta tp tlo thi T T ++ ([])) (fun _ : Unit => wTab g ta tp tlo thi T T ++ ([])) (fun v _ => v = iI (bZ (decide (1 < cnt (T (12 * r0 + i0)))))) 0 0 := by
  refine mI_of (cc := cX4_holdsConflict) (maxL := 3) (ret := (some .boolean)) (own := RX4) (by decide) rfl rfl (Nat.le_of_ble_eq_true rfl) ?_
  intro p e s m args below meth c A C hr hl hin
  have hc := cnt_le (T (12 * r0 + i0))
  refine v_aload_n C dX4_holdsConflict_0 rfl 0 rfl ?_
  refine v_iload_n C dX4_holdsConflict_1 rfl 1 rfl ?_
  refine v_iload_n C dX4_holdsConflict_2 rfl 2 rfl ?_
  refine v_invVI C (As := [.int (iI ((r0 : Nat) : Int)), .int (iI ((i0 : Nat) : Int))]) (q0 := 0) (ci := 4) (kX4_sideCount l g (ta := ta) (tp := tp) (tlo := tlo) (thi := thi) (T := T) (r0 := r0) (i0 := i0) (by omega) (by omega)) (cwV 2 C.2.2.2.2.1 gX4_holdsConflict_X4_sideCount rfl rfl rfl (by decide +kernel) ⟨Nat.le_of_ble_eq_true rfl, Nat.le_of_ble_eq_true rfl⟩) [wTab g ta tp tlo thi T T] [0] [] [] (fun _ => [wTab g ta tp tlo thi T T]) (fun _ => wTab g ta tp tlo thi T T ++ ([])) rfl rfl rfl (fun _ => rfl) (fun _ => rfl) (fun _ => rfl) (fun _ => rfl) rfl rfl rfl rfl rfl (Nat.le_of_ble_eq_true rfl) dX4_holdsConflict_3 ⟨by decide, by decide⟩ (fun r_2 _ h_1 => ?_)
  subst h_1
  refine v_iconst C (z := 1) dX4_holdsConflict_6 ?_
  refine v_icmp_le C 14 dX4_holdsConflict_7 (by decide) (cnt31 _) (b31_lit _ rfl) (fun c_3 => ?_) (fun c_3 => ?_)
  ·
    refine v_iconst C (z := 0) dX4_holdsConflict_14 ?_
    exact (v_zret C hr hl () rfl (by decide) (by decide) rfl (bz_df (by omega)) dX4_holdsConflict_15)
  ·
    refine v_iconst C (z := 1) dX4_holdsConflict_10 ?_
    refine v_goto C 15 dX4_holdsConflict_11 (by decide) ?_
    exact (v_zret C hr hl () rfl (by decide) (by decide) rfl (bz_dt (by omega)) dX4_holdsConflict_15)
set_option maxHeartbeats 4000000 in
set_option maxRecDepth 100000 in
theorem kX4_emptyRow (l : Launch) (g : vG) {ta tp tlo thi : Nat} {T : Nat → Nat} {r0 : Nat} (hr0 : r0 < 102) : mV l g yX4_emptyRow wsX4_emptyRow ({ frames := 2, cells := 0, slots := 0, locals := 45 }) [.ref (ta), .int (iI ((r0 : Nat) : Int))] (wTab g ta tp tlo thi T T ++ ([])) (fun _ : Unit => wTab g ta tp tlo thi (rowP T r0 12 (fun _ => 1)) (rowP T r0 12 (fun _ => 1)) ++ ([])) (fun _ => True) 0 0 := by
  refine mV_of (cc := cX4_emptyRow) (maxL := 3) (ret := none) (own := RX4) (by decide) rfl rfl (Nat.le_of_ble_eq_true rfl) ?_
  intro p e s m args below meth c A C hr hl hin
  refine v_iconst C (z := 0) dX4_emptyRow_0 ?_
  refine v_istore_n C [(2, .int (iI (0))), (0, .ref (ta)), (1, .int (iI ((r0 : Nat) : Int)))] dX4_emptyRow_1 rfl (by decide) rfl ?_
  refine v_lv (lv' := [(0, .ref (ta)), (1, .int (iI ((r0 : Nat) : Int))), (2, .int (iI ((0 : Nat) : Int)))]) [1, 2, 0] rfl ?_
  refine v_ws (ws' := wTab g ta tp tlo thi (rowP T r0 0 (fun _ => 1)) (rowP T r0 0 (fun _ => 1)) ++ ([])) (by rw [rowP_0]) ?_
  refine v_lp1 (X := Nat) (fun i => wTab g ta tp tlo thi (rowP T r0 i (fun _ => 1)) (rowP T r0 i (fun _ => 1)) ++ ([])) (fun i => [(0, .ref (ta)), (1, .int (iI ((r0 : Nat) : Int))), (2, .int (iI ((i : Nat) : Int)))]) (fun i => 12 - i) (fun i => i ≤ 12) ?_ (0) (Nat.zero_le _)
  intro i hJ2 ih2
  try dsimp only at hJ2 ⊢
  refine v_iload_n C dX4_emptyRow_2 rfl 2 rfl ?_
  refine v_bipush C (z := 12) dX4_emptyRow_3 rfl ?_
  refine v_icmp_ge C 21 dX4_emptyRow_5 (by decide) ⟨by omega, by omega⟩ (b31_lit _ rfl) (fun c_1 => ?_) (fun c_1 => ?_)
  ·
    obtain rfl : i = 12 := by omega
    exact (v_vret C hr hl () (by decide) (by decide) rfl trivial dX4_emptyRow_21)
  ·
    refine v_aload_n C dX4_emptyRow_8 rfl 0 rfl ?_
    refine v_iload_n C dX4_emptyRow_9 rfl 1 rfl ?_
    refine v_iload_n C dX4_emptyRow_10 rfl 2 rfl ?_
    refine v_iconst C (z := 0) dX4_emptyRow_11 ?_
    refine v_invVV C (As := [.int (iI ((r0 : Nat) : Int)), .int (iI ((i : Nat) : Int)), .int (iI (0))]) (q0 := 0) (ci := 4) (kX4_holdSide l g (ta := ta) (tp := tp) (tlo := tlo) (thi := thi) (T := rowP T r0 i (fun _ => 1)) (r0 := r0) (i0 := i) (sd := 0) (by omega) (by omega) (by omega)) (cwV 3 C.2.2.2.2.1 gX4_emptyRow_X4_holdSide rfl rfl rfl (by decide +kernel) ⟨Nat.le_of_ble_eq_true rfl, Nat.le_of_ble_eq_true rfl⟩) [wTab g ta tp tlo thi (rowP T r0 i (fun _ => 1)) (rowP T r0 i (fun _ => 1))] [0] [] [] (fun _ => [wTab g ta tp tlo thi (updN (rowP T r0 i (fun _ => 1)) (12 * r0 + i) (2 ^ 0)) (updN (rowP T r0 i (fun _ => 1)) (12 * r0 + i) (2 ^ 0))]) (fun _ => wTab g ta tp tlo thi (updN (rowP T r0 i (fun _ => 1)) (12 * r0 + i) (2 ^ 0)) (updN (rowP T r0 i (fun _ => 1)) (12 * r0 + i) (2 ^ 0)) ++ ([])) rfl rfl rfl (fun _ => rfl) (fun _ => rfl) (fun _ => rfl) (fun _ => rfl) rfl rfl rfl rfl rfl (Nat.le_of_ble_eq_true rfl) dX4_emptyRow_12 ⟨by decide, by decide⟩ (fun _ h_2 => ?_)
    refine v_iinc C [(2, .int (iI (((i : Nat) : Int) + 1))), (0, .ref (ta)), (1, .int (iI ((r0 : Nat) : Int)))] dX4_emptyRow_15 2 rfl (by decide) rfl ?_
    rw [show ((i : Nat) : Int) + 1 = ((i + 1 : Nat) : Int) from rfl]
    refine v_goto C 2 dX4_emptyRow_18 (by decide) ?_
    refine v_lv (lv' := [(0, .ref (ta)), (1, .int (iI ((r0 : Nat) : Int))), (2, .int (iI ((i + 1 : Nat) : Int)))]) [1, 2, 0] rfl ?_
    refine v_ws (ws' := wTab g ta tp tlo thi (rowP T r0 (i + 1) (fun _ => 1)) (rowP T r0 (i + 1) (fun _ => 1)) ++ ([])) (by rw [← rowP_s]) ?_
    exact ih2 (i + 1) (by omega) (by omega)
theorem inX4_copyRow_4 : ∀ w ∈ u_ws RX4 TX4 3, w ∈ wsX4_copyRow := by decide +kernel
theorem lkX4_copyRow_15 : Cond.fieldLink RX4 15 "MergeAtelier$Table" "low" "[J" ∈ wsX4_copyRow := by decide +kernel
theorem cpw0 : Cond.methodLink RX4 32 arraycopyName ∈ wsX4_copyRow := by decide +kernel
theorem cpw1 : Cond.native arraycopyName ∈ wsX4_copyRow := by decide +kernel
theorem cpw2 : Cond.static arraycopyName ∈ wsX4_copyRow := by decide +kernel
theorem cpw3 : Cond.initialized "java/lang/System" ∈ wsX4_copyRow := by decide +kernel
theorem lkX4_copyRow_19 : Cond.fieldLink RX4 19 "MergeAtelier$Table" "high" "[J" ∈ wsX4_copyRow := by decide +kernel
set_option maxHeartbeats 4000000 in
set_option maxRecDepth 100000 in
theorem kX4_copyRow (l : Launch) (g : vG) {ta tp tlo thi : Nat} {T : Nat → Nat} {r0 f0 : Nat} (hr0 : r0 < 102) (hf0 : f0 < 102) : mV l g yX4_copyRow wsX4_copyRow ({ frames := 1, cells := 0, slots := 0, locals := 60 }) [.ref (ta), .int (iI ((r0 : Nat) : Int)), .int (iI ((f0 : Nat) : Int))] (wTab g ta tp tlo thi T T ++ ([])) (fun _ : Unit => wTab g ta tp tlo thi (rowP T r0 12 (fun i => T (12 * f0 + i))) (rowP T r0 12 (fun i => T (12 * f0 + i))) ++ ([])) (fun _ => True) 0 0 := by
  refine mV_of (cc := cX4_copyRow) (maxL := 3) (ret := none) (own := RX4) (by decide) rfl rfl (Nat.le_of_ble_eq_true rfl) ?_
  intro p e s m args below meth c A C hr hl hin
  refine v_aload_n C dX4_copyRow_0 rfl 0 rfl ?_
  refine v_get C 0 (kf := 1) rfl rfl (by decide) inX4_copyRow_4 lkX4_copyRow_15 rfl rfl dX4_copyRow_1 ?_
  refine v_iload_n C dX4_copyRow_4 rfl 2 rfl ?_
  refine v_iconst C (z := 0) dX4_copyRow_5 ?_
  refine v_invSI C (As := [.int (iI ((f0 : Nat) : Int)), .int (iI (0))]) (kX4_cell l g (r0 := f0) (i0 := 0)) (cwS 2 C.2.2.2.2.1 gX4_copyRow_X4_cell rfl rfl rfl (by decide +kernel) ⟨Nat.le_of_ble_eq_true rfl, Nat.le_of_ble_eq_true rfl⟩) [wTab g ta tp tlo thi T T] [] [0] [.ref (tlo)] (fun _ => [wTab g ta tp tlo thi T T]) (fun _ => wTab g ta tp tlo thi T T ++ ([])) rfl rfl rfl (fun _ => rfl) (fun _ => rfl) (fun _ => rfl) (fun _ => rfl) rfl rfl (Nat.le_of_ble_eq_true rfl) dX4_copyRow_6 ⟨by decide, by decide⟩ (fun r_2 _ h_1 => ?_)
  subst h_1
  refine v_aload_n C dX4_copyRow_9 rfl 0 rfl ?_
  refine v_get C 0 (kf := 1) rfl rfl (by decide) inX4_copyRow_4 lkX4_copyRow_15 rfl rfl dX4_copyRow_10 ?_
  refine v_iload_n C dX4_copyRow_13 rfl 1 rfl ?_
  refine v_iconst C (z := 0) dX4_copyRow_14 ?_
  refine v_invSI C (As := [.int (iI ((r0 : Nat) : Int)), .int (iI (0))]) (kX4_cell l g (r0 := r0) (i0 := 0)) (cwS 2 C.2.2.2.2.1 gX4_copyRow_X4_cell rfl rfl rfl (by decide +kernel) ⟨Nat.le_of_ble_eq_true rfl, Nat.le_of_ble_eq_true rfl⟩) [wTab g ta tp tlo thi T T] [] [0] [.ref (tlo), .int (iI ((12 * f0 + 0 : Nat) : Int)), .ref (tlo)] (fun _ => [wTab g ta tp tlo thi T T]) (fun _ => wTab g ta tp tlo thi T T ++ ([])) rfl rfl rfl (fun _ => rfl) (fun _ => rfl) (fun _ => rfl) (fun _ => rfl) rfl rfl (Nat.le_of_ble_eq_true rfl) dX4_copyRow_15 ⟨by decide, by decide⟩ (fun r_4 _ h_3 => ?_)
  subst h_3
  refine v_bipush C (z := 12) dX4_copyRow_18 rfl ?_
  refine v_copyl C cpw0 cpw1 cpw2 cpw3 1 (12 * f0) (12 * r0) 12 (wTab g ta tp tlo thi (rowP T r0 12 (fun i => T (12 * f0 + i))) T ++ ([])) rfl (by omega) (by omega) rfl (by omega) (by omega) (by decide) (by decide) (by decide) dX4_copyRow_20 (cpy_lo T f0 r0) rfl ?_
  refine v_aload_n C dX4_copyRow_23 rfl 0 rfl ?_
  refine v_get C 0 (kf := 2) rfl rfl (by decide) inX4_copyRow_4 lkX4_copyRow_19 rfl rfl dX4_copyRow_24 ?_
  refine v_iload_n C dX4_copyRow_27 rfl 2 rfl ?_
  refine v_iconst C (z := 0) dX4_copyRow_28 ?_
  refine v_invSI C (As := [.int (iI ((f0 : Nat) : Int)), .int (iI (0))]) (kX4_cell l g (r0 := f0) (i0 := 0)) (cwS 2 C.2.2.2.2.1 gX4_copyRow_X4_cell rfl rfl rfl (by decide +kernel) ⟨Nat.le_of_ble_eq_true rfl, Nat.le_of_ble_eq_true rfl⟩) [wTab g ta tp tlo thi (rowP T r0 12 (fun i => T (12 * f0 + i))) T] [] [0] [.ref (thi)] (fun _ => [wTab g ta tp tlo thi (rowP T r0 12 (fun i => T (12 * f0 + i))) T]) (fun _ => wTab g ta tp tlo thi (rowP T r0 12 (fun i => T (12 * f0 + i))) T ++ ([])) rfl rfl rfl (fun _ => rfl) (fun _ => rfl) (fun _ => rfl) (fun _ => rfl) rfl rfl (Nat.le_of_ble_eq_true rfl) dX4_copyRow_29 ⟨by decide, by decide⟩ (fun r_6 _ h_5 => ?_)
  subst h_5
  refine v_aload_n C dX4_copyRow_32 rfl 0 rfl ?_
  refine v_get C 0 (kf := 2) rfl rfl (by decide) inX4_copyRow_4 lkX4_copyRow_19 rfl rfl dX4_copyRow_33 ?_
  refine v_iload_n C dX4_copyRow_36 rfl 1 rfl ?_
  refine v_iconst C (z := 0) dX4_copyRow_37 ?_
  refine v_invSI C (As := [.int (iI ((r0 : Nat) : Int)), .int (iI (0))]) (kX4_cell l g (r0 := r0) (i0 := 0)) (cwS 2 C.2.2.2.2.1 gX4_copyRow_X4_cell rfl rfl rfl (by decide +kernel) ⟨Nat.le_of_ble_eq_true rfl, Nat.le_of_ble_eq_true rfl⟩) [wTab g ta tp tlo thi (rowP T r0 12 (fun i => T (12 * f0 + i))) T] [] [0] [.ref (thi), .int (iI ((12 * f0 + 0 : Nat) : Int)), .ref (thi)] (fun _ => [wTab g ta tp tlo thi (rowP T r0 12 (fun i => T (12 * f0 + i))) T]) (fun _ => wTab g ta tp tlo thi (rowP T r0 12 (fun i => T (12 * f0 + i))) T ++ ([])) rfl rfl rfl (fun _ => rfl) (fun _ => rfl) (fun _ => rfl) (fun _ => rfl) rfl rfl (Nat.le_of_ble_eq_true rfl) dX4_copyRow_38 ⟨by decide, by decide⟩ (fun r_8 _ h_7 => ?_)
  subst h_7
  refine v_bipush C (z := 12) dX4_copyRow_41 rfl ?_
  refine v_copyl C cpw0 cpw1 cpw2 cpw3 2 (12 * f0) (12 * r0) 12 (wTab g ta tp tlo thi (rowP T r0 12 (fun i => T (12 * f0 + i))) (rowP T r0 12 (fun i => T (12 * f0 + i))) ++ ([])) rfl (by omega) (by omega) rfl (by omega) (by omega) (by decide) (by decide) (by decide) dX4_copyRow_43 (cpy_hi T f0 r0) rfl ?_
  exact (v_vret C hr hl () (by decide) (by decide) rfl trivial dX4_copyRow_46)
set_option maxHeartbeats 4000000 in
set_option maxRecDepth 100000 in
theorem kX4_conflictCount (l : Launch) (g : vG) {ta tp tlo thi : Nat} {T : Nat → Nat} {r0 : Nat} (hr0 : r0 < 102) : mI l g yX4_conflictCount wsX4_conflictCount ({ frames := 3, cells := 0, slots := 0, locals := 66 }) [.ref (ta), .int (iI ((r0 : Nat) : Int))] (wTab g ta tp tlo thi T T ++ ([])) (fun _ : Unit => wTab g ta tp tlo thi T T ++ ([])) (fun v _ => v = iI (((fb_ct (fun i => decide (1 < cnt (T (12 * r0 + i)))) 12 : Nat)) : Int)) 0 0 := by
  refine mI_of (cc := cX4_conflictCount) (maxL := 4) (ret := (some .int)) (own := RX4) (by decide) rfl rfl (Nat.le_of_ble_eq_true rfl) ?_
  intro p e s m args below meth c A C hr hl hin
  refine v_iconst C (z := 0) dX4_conflictCount_0 ?_
  refine v_istore_n C [(2, .int (iI (0))), (0, .ref (ta)), (1, .int (iI ((r0 : Nat) : Int)))] dX4_conflictCount_1 rfl (by decide) rfl ?_
  refine v_iconst C (z := 0) dX4_conflictCount_2 ?_
  refine v_istore_n C [(3, .int (iI (0))), (2, .int (iI (0))), (0, .ref (ta)), (1, .int (iI ((r0 : Nat) : Int)))] dX4_conflictCount_3 rfl (by decide) rfl ?_
  refine v_lv (lv' := [(0, .ref (ta)), (1, .int (iI ((r0 : Nat) : Int))), (2, .int (iI ((fb_ct (fun i => decide (1 < cnt (T (12 * r0 + i)))) 0 : Nat) : Int))), (3, .int (iI ((0 : Nat) : Int)))]) [2, 3, 1, 0] rfl ?_
  refine v_lp1 (X := Nat) (fun i => wTab g ta tp tlo thi T T ++ ([])) (fun i => [(0, .ref (ta)), (1, .int (iI ((r0 : Nat) : Int))), (2, .int (iI ((fb_ct (fun i => decide (1 < cnt (T (12 * r0 + i)))) i : Nat) : Int))), (3, .int (iI ((i : Nat) : Int)))]) (fun i => 12 - i) (fun i => i ≤ 12) ?_ (0) (Nat.zero_le _)
  intro i hJ4 ih4
  try dsimp only at hJ4 ⊢
  refine v_iload_n C dX4_conflictCount_4 rfl 3 rfl ?_
  refine v_bipush C (z := 12) dX4_conflictCount_5 rfl ?_
  refine v_icmp_ge C 28 dX4_conflictCount_7 (by decide) ⟨by omega, by omega⟩ (b31_lit _ rfl) (fun c_1 => ?_) (fun c_1 => ?_)
  ·
    obtain rfl : i = 12 := by omega
    refine v_iload_n C dX4_conflictCount_28 rfl 2 rfl ?_
    exact (v_iret C hr hl () (by decide) (by decide) rfl rfl dX4_conflictCount_29)
  ·
    refine v_aload_n C dX4_conflictCount_10 rfl 0 rfl ?_
    refine v_iload_n C dX4_conflictCount_11 rfl 1 rfl ?_
    refine v_iload_n C dX4_conflictCount_12 rfl 3 rfl ?_
    refine v_invVI C (As := [.int (iI ((r0 : Nat) : Int)), .int (iI ((i : Nat) : Int))]) (q0 := 0) (ci := 4) (kX4_holdsConflict l g (ta := ta) (tp := tp) (tlo := tlo) (thi := thi) (T := T) (r0 := r0) (i0 := i) (by omega) (by omega)) (cwV 2 C.2.2.2.2.1 gX4_conflictCount_X4_holdsConflict rfl rfl rfl (by decide +kernel) ⟨Nat.le_of_ble_eq_true rfl, Nat.le_of_ble_eq_true rfl⟩) [wTab g ta tp tlo thi T T] [0] [] [] (fun _ => [wTab g ta tp tlo thi T T]) (fun _ => wTab g ta tp tlo thi T T ++ ([])) rfl rfl rfl (fun _ => rfl) (fun _ => rfl) (fun _ => rfl) (fun _ => rfl) rfl rfl rfl rfl rfl (Nat.le_of_ble_eq_true rfl) dX4_conflictCount_13 ⟨by decide, by decide⟩ (fun r_3 _ h_2 => ?_)
    subst h_2
    refine v_ifz_eq C 22 dX4_conflictCount_16 (by decide) (fun c_4 => ?_) (fun c_4 => ?_)
    ·
      refine v_iinc C [(3, .int (iI (((i : Nat) : Int) + 1))), (0, .ref (ta)), (1, .int (iI ((r0 : Nat) : Int))), (2, .int (iI ((fb_ct (fun i => decide (1 < cnt (T (12 * r0 + i)))) i : Nat) : Int)))] dX4_conflictCount_22 3 rfl (by decide) rfl ?_
      rw [show ((i : Nat) : Int) + 1 = ((i + 1 : Nat) : Int) from rfl]
      refine v_goto C 4 dX4_conflictCount_25 (by decide) ?_
      refine v_lv (lv' := [(0, .ref (ta)), (1, .int (iI ((r0 : Nat) : Int))), (2, .int (iI ((fb_ct (fun i => decide (1 < cnt (T (12 * r0 + i)))) i : Nat) : Int))), (3, .int (iI ((i + 1 : Nat) : Int)))]) [1, 2, 3, 0] rfl ?_
      rw [show ((fb_ct (fun i => decide (1 < cnt (T (12 * r0 + i)))) i : Nat) : Int) = ((fb_ct (fun i => decide (1 < cnt (T (12 * r0 + i)))) (i + 1) : Nat) : Int) from (ct_fz c_4)]
      exact ih4 (i + 1) (by omega) (by omega)
    ·
      refine v_iinc C [(2, .int (iI (((fb_ct (fun i => decide (1 < cnt (T (12 * r0 + i)))) i : Nat) : Int) + 1))), (0, .ref (ta)), (1, .int (iI ((r0 : Nat) : Int))), (3, .int (iI ((i : Nat) : Int)))] dX4_conflictCount_19 2 rfl (by decide) rfl ?_
      rw [show ((fb_ct (fun i => decide (1 < cnt (T (12 * r0 + i)))) i : Nat) : Int) + 1 = ((fb_ct (fun i => decide (1 < cnt (T (12 * r0 + i)))) i + 1 : Nat) : Int) from rfl]
      refine v_iinc C [(3, .int (iI (((i : Nat) : Int) + 1))), (2, .int (iI ((fb_ct (fun i => decide (1 < cnt (T (12 * r0 + i)))) i + 1 : Nat) : Int))), (0, .ref (ta)), (1, .int (iI ((r0 : Nat) : Int)))] dX4_conflictCount_22 3 rfl (by decide) rfl ?_
      rw [show ((i : Nat) : Int) + 1 = ((i + 1 : Nat) : Int) from rfl]
      refine v_goto C 4 dX4_conflictCount_25 (by decide) ?_
      refine v_lv (lv' := [(0, .ref (ta)), (1, .int (iI ((r0 : Nat) : Int))), (2, .int (iI ((fb_ct (fun i => decide (1 < cnt (T (12 * r0 + i)))) i + 1 : Nat) : Int))), (3, .int (iI ((i + 1 : Nat) : Int)))]) [2, 3, 1, 0] rfl ?_
      rw [show ((fb_ct (fun i => decide (1 < cnt (T (12 * r0 + i)))) i + 1 : Nat) : Int) = ((fb_ct (fun i => decide (1 < cnt (T (12 * r0 + i)))) (i + 1) : Nat) : Int) from (ct_tz c_4)]
      exact ih4 (i + 1) (by omega) (by omega)
set_option maxHeartbeats 4000000 in
set_option maxRecDepth 100000 in
theorem kX4_differenceCount (l : Launch) (g : vG) {ta tp tlo thi : Nat} {T : Nat → Nat} {r0 f0 : Nat} (hr0 : r0 < 102) (hf0 : f0 < 102) (hT : T128 T) : mI l g yX4_differenceCount wsX4_differenceCount ({ frames := 2, cells := 0, slots := 0, locals := 46 }) [.ref (ta), .int (iI ((r0 : Nat) : Int)), .int (iI ((f0 : Nat) : Int))] (wTab g ta tp tlo thi T T ++ ([])) (fun _ : Unit => wTab g ta tp tlo thi T T ++ ([])) (fun v _ => v = iI (((fb_ct (fun i => !decide (T (12 * r0 + i) = T (12 * f0 + i))) 12 : Nat)) : Int)) 0 0 := by
  refine mI_of (cc := cX4_differenceCount) (maxL := 5) (ret := (some .int)) (own := RX4) (by decide) rfl rfl (Nat.le_of_ble_eq_true rfl) ?_
  intro p e s m args below meth c A C hr hl hin
  refine v_iconst C (z := 0) dX4_differenceCount_0 ?_
  refine v_istore_n C [(3, .int (iI (0))), (0, .ref (ta)), (1, .int (iI ((r0 : Nat) : Int))), (2, .int (iI ((f0 : Nat) : Int)))] dX4_differenceCount_1 rfl (by decide) rfl ?_
  refine v_iconst C (z := 0) dX4_differenceCount_2 ?_
  refine v_istore C [(4, .int (iI (0))), (3, .int (iI (0))), (0, .ref (ta)), (1, .int (iI ((r0 : Nat) : Int))), (2, .int (iI ((f0 : Nat) : Int)))] dX4_differenceCount_3 (by decide) rfl ?_
  refine v_lv (lv' := [(0, .ref (ta)), (1, .int (iI ((r0 : Nat) : Int))), (2, .int (iI ((f0 : Nat) : Int))), (3, .int (iI ((fb_ct (fun i => !decide (T (12 * r0 + i) = T (12 * f0 + i))) 0 : Nat) : Int))), (4, .int (iI ((0 : Nat) : Int)))]) [2, 3, 4, 1, 0] rfl ?_
  refine v_lp1 (X := Nat) (fun i => wTab g ta tp tlo thi T T ++ ([])) (fun i => [(0, .ref (ta)), (1, .int (iI ((r0 : Nat) : Int))), (2, .int (iI ((f0 : Nat) : Int))), (3, .int (iI ((fb_ct (fun i => !decide (T (12 * r0 + i) = T (12 * f0 + i))) i : Nat) : Int))), (4, .int (iI ((i : Nat) : Int)))]) (fun i => 12 - i) (fun i => i ≤ 12) ?_ (0) (Nat.zero_le _)
  intro i hJ5 ih5
  try dsimp only at hJ5 ⊢
  refine v_iload C dX4_differenceCount_5 4 rfl ?_
  refine v_bipush C (z := 12) dX4_differenceCount_7 rfl ?_
  refine v_icmp_ge C 32 dX4_differenceCount_9 (by decide) ⟨by omega, by omega⟩ (b31_lit _ rfl) (fun c_1 => ?_) (fun c_1 => ?_)
  ·
    obtain rfl : i = 12 := by omega
    refine v_iload_n C dX4_differenceCount_32 rfl 3 rfl ?_
    exact (v_iret C hr hl () (by decide) (by decide) rfl rfl dX4_differenceCount_33)
  ·
    refine v_aload_n C dX4_differenceCount_12 rfl 0 rfl ?_
    refine v_iload C dX4_differenceCount_13 4 rfl ?_
    refine v_iload_n C dX4_differenceCount_15 rfl 1 rfl ?_
    refine v_iload_n C dX4_differenceCount_16 rfl 2 rfl ?_
    refine v_invVI C (As := [.int (iI ((i : Nat) : Int)), .int (iI ((r0 : Nat) : Int)), .int (iI ((f0 : Nat) : Int))]) (q0 := 0) (ci := 4) (kX4_holdsSame l g (ta := ta) (tp := tp) (tlo := tlo) (thi := thi) (T := T) (i0 := i) (r0 := r0) (f0 := f0) (by omega) (by omega) (by omega) hT) (cwV 3 C.2.2.2.2.1 gX4_differenceCount_X4_holdsSame rfl rfl rfl (by decide +kernel) ⟨Nat.le_of_ble_eq_true rfl, Nat.le_of_ble_eq_true rfl⟩) [wTab g ta tp tlo thi T T] [0] [] [] (fun _ => [wTab g ta tp tlo thi T T]) (fun _ => wTab g ta tp tlo thi T T ++ ([])) rfl rfl rfl (fun _ => rfl) (fun _ => rfl) (fun _ => rfl) (fun _ => rfl) rfl rfl rfl rfl rfl (Nat.le_of_ble_eq_true rfl) dX4_differenceCount_17 ⟨by decide, by decide⟩ (fun r_3 _ h_2 => ?_)
    subst h_2
    refine v_ifz_ne C 26 dX4_differenceCount_20 (by decide) (fun c_4 => ?_) (fun c_4 => ?_)
    ·
      refine v_iinc C [(4, .int (iI (((i : Nat) : Int) + 1))), (0, .ref (ta)), (1, .int (iI ((r0 : Nat) : Int))), (2, .int (iI ((f0 : Nat) : Int))), (3, .int (iI ((fb_ct (fun i => !decide (T (12 * r0 + i) = T (12 * f0 + i))) i : Nat) : Int)))] dX4_differenceCount_26 4 rfl (by decide) rfl ?_
      rw [show ((i : Nat) : Int) + 1 = ((i + 1 : Nat) : Int) from rfl]
      refine v_goto C 5 dX4_differenceCount_29 (by decide) ?_
      refine v_lv (lv' := [(0, .ref (ta)), (1, .int (iI ((r0 : Nat) : Int))), (2, .int (iI ((f0 : Nat) : Int))), (3, .int (iI ((fb_ct (fun i => !decide (T (12 * r0 + i) = T (12 * f0 + i))) i : Nat) : Int))), (4, .int (iI ((i + 1 : Nat) : Int)))]) [1, 2, 3, 4, 0] rfl ?_
      rw [show ((fb_ct (fun i => !decide (T (12 * r0 + i) = T (12 * f0 + i))) i : Nat) : Int) = ((fb_ct (fun i => !decide (T (12 * r0 + i) = T (12 * f0 + i))) (i + 1) : Nat) : Int) from (ct_fn c_4)]
      exact ih5 (i + 1) (by omega) (by omega)
    ·
      refine v_iinc C [(3, .int (iI (((fb_ct (fun i => !decide (T (12 * r0 + i) = T (12 * f0 + i))) i : Nat) : Int) + 1))), (0, .ref (ta)), (1, .int (iI ((r0 : Nat) : Int))), (2, .int (iI ((f0 : Nat) : Int))), (4, .int (iI ((i : Nat) : Int)))] dX4_differenceCount_23 3 rfl (by decide) rfl ?_
      rw [show ((fb_ct (fun i => !decide (T (12 * r0 + i) = T (12 * f0 + i))) i : Nat) : Int) + 1 = ((fb_ct (fun i => !decide (T (12 * r0 + i) = T (12 * f0 + i))) i + 1 : Nat) : Int) from rfl]
      refine v_iinc C [(4, .int (iI (((i : Nat) : Int) + 1))), (3, .int (iI ((fb_ct (fun i => !decide (T (12 * r0 + i) = T (12 * f0 + i))) i + 1 : Nat) : Int))), (0, .ref (ta)), (1, .int (iI ((r0 : Nat) : Int))), (2, .int (iI ((f0 : Nat) : Int)))] dX4_differenceCount_26 4 rfl (by decide) rfl ?_
      rw [show ((i : Nat) : Int) + 1 = ((i + 1 : Nat) : Int) from rfl]
      refine v_goto C 5 dX4_differenceCount_29 (by decide) ?_
      refine v_lv (lv' := [(0, .ref (ta)), (1, .int (iI ((r0 : Nat) : Int))), (2, .int (iI ((f0 : Nat) : Int))), (3, .int (iI ((fb_ct (fun i => !decide (T (12 * r0 + i) = T (12 * f0 + i))) i + 1 : Nat) : Int))), (4, .int (iI ((i + 1 : Nat) : Int)))]) [2, 3, 4, 1, 0] rfl ?_
      rw [show ((fb_ct (fun i => !decide (T (12 * r0 + i) = T (12 * f0 + i))) i + 1 : Nat) : Int) = ((fb_ct (fun i => !decide (T (12 * r0 + i) = T (12 * f0 + i))) (i + 1) : Nat) : Int) from (ct_tn c_4)]
      exact ih5 (i + 1) (by omega) (by omega)
