theorem pk_at {T : Nat → Nat} {r h q b i v : Nat} (hi : i < 12) (hh : h < r) (hq : q < r) (hb : b < r) (e : pkc (rowP T r i (pickF T h q b) (12 * q + i)) (rowP T r i (pickF T h q b) (12 * b + i)) (rowP T r i (pickF T h q b) (12 * h + i)) = v) : updN (rowP T r i (pickF T h q b)) (12 * r + i) v = rowP T r (i + 1) (pickF T h q b) := by
  rw [rowP_else (by omega) hi (by omega), rowP_else (by omega) hi (by omega), rowP_else (by omega) hi (by omega)] at e
  exact pk_step hi e.symm
theorem inX3_writePick_3 : ∀ w ∈ u_ws RX3 TX3 2, w ∈ wsX3_writePick := by decide +kernel
theorem lkX3_writePick_9 : Cond.fieldLink RX3 9 "MergeAtelier$Scribe" "log" "LMergeAtelier$Log;" ∈ wsX3_writePick := by decide +kernel
theorem inX3_writePick_0 : ∀ w ∈ u_ws RX0 TX0 10, w ∈ wsX3_writePick := by decide +kernel
theorem lkX3_writePick_25 : Cond.fieldLink RX3 25 "MergeAtelier$Log" "first" "[I" ∈ wsX3_writePick := by decide +kernel
set_option maxHeartbeats 4000000 in
set_option maxRecDepth 100000 in
theorem kX3_writePick (l : Launch) (g : vG) {sa qa : Nat} {la : Nat} {l1 l2 l3 l4 l5 l6 l7 l8 l9 : Nat} {deed item side picked qcnt An : Nat → Nat} {first second : Nat → Int} {cm : Nat} {ta tp tlo thi : Nat} {T : Nat → Nat} {r0 h0 p0 b0 : Nat} (hr0 : r0 < 100) (hh0 : h0 < r0) (hp0 : p0 < r0) (hb0 : b0 < r0) (hfb : first p0 = (b0 : Int)) (hT : T128 T) : mV l g yX3_writePick wsX3_writePick ({ frames := 2, cells := 0, slots := 0, locals := 48 }) [.ref (sa), .ref (ta), .int (iI ((r0 : Nat) : Int)), .int (iI ((h0 : Nat) : Int)), .int (iI ((p0 : Nat) : Int))] (wScr g sa la qa ++ (wLog g la l1 l2 l3 l4 l5 l6 l7 l8 l9 deed first second item side picked qcnt An An cm ++ (wTab g ta tp tlo thi T T ++ ([])))) (fun _ : Unit => wScr g sa la qa ++ (wLog g la l1 l2 l3 l4 l5 l6 l7 l8 l9 deed first second item side picked qcnt An An cm ++ (wTab g ta tp tlo thi (rowP T r0 12 (pickF T h0 p0 b0)) (rowP T r0 12 (pickF T h0 p0 b0)) ++ ([])))) (fun _ => True) 0 0 := by
  refine mV_of (cc := cX3_writePick) (maxL := 7) (ret := none) (own := RX3) (by decide) rfl rfl (Nat.le_of_ble_eq_true rfl) ?_
  intro p e s m args below meth c A C hr hl hin
  refine v_aload_n C dX3_writePick_0 rfl 0 rfl ?_
  refine v_get C 0 (kf := 0) rfl rfl (by decide) inX3_writePick_3 lkX3_writePick_9 rfl rfl dX3_writePick_1 ?_
  refine v_get C 1 (kf := 1) rfl rfl (by decide) inX3_writePick_0 lkX3_writePick_25 rfl rfl dX3_writePick_4 ?_
  refine v_iload C dX3_writePick_7 4 rfl ?_
  refine v_iald C 3 (p0) rfl rfl (by omega) (by decide) dX3_writePick_9 ?_
  rw [hfb]
  refine v_istore C [(5, .int (iI ((b0 : Nat) : Int))), (0, .ref (sa)), (1, .ref (ta)), (2, .int (iI ((r0 : Nat) : Int))), (3, .int (iI ((h0 : Nat) : Int))), (4, .int (iI ((p0 : Nat) : Int)))] dX3_writePick_10 (by decide) rfl ?_
  refine v_iconst C (z := 0) dX3_writePick_12 ?_
  refine v_istore C [(6, .int (iI (0))), (5, .int (iI ((b0 : Nat) : Int))), (0, .ref (sa)), (1, .ref (ta)), (2, .int (iI ((r0 : Nat) : Int))), (3, .int (iI ((h0 : Nat) : Int))), (4, .int (iI ((p0 : Nat) : Int)))] dX3_writePick_13 (by decide) rfl ?_
  refine v_lv (lv' := [(0, .ref (sa)), (1, .ref (ta)), (2, .int (iI ((r0 : Nat) : Int))), (3, .int (iI ((h0 : Nat) : Int))), (4, .int (iI ((p0 : Nat) : Int))), (5, .int (iI ((b0 : Nat) : Int))), (6, .int (iI ((0 : Nat) : Int)))]) [2, 3, 4, 5, 6, 1, 0] rfl ?_
  refine v_ws (ws' := wScr g sa la qa ++ (wLog g la l1 l2 l3 l4 l5 l6 l7 l8 l9 deed first second item side picked qcnt An An cm ++ (wTab g ta tp tlo thi (rowP T r0 0 (pickF T h0 p0 b0)) (rowP T r0 0 (pickF T h0 p0 b0)) ++ ([])))) (by rw [rowP_0]) ?_
  refine v_lp1 (X := Nat) (fun i => wScr g sa la qa ++ (wLog g la l1 l2 l3 l4 l5 l6 l7 l8 l9 deed first second item side picked qcnt An An cm ++ (wTab g ta tp tlo thi (rowP T r0 i (pickF T h0 p0 b0)) (rowP T r0 i (pickF T h0 p0 b0)) ++ ([])))) (fun i => [(0, .ref (sa)), (1, .ref (ta)), (2, .int (iI ((r0 : Nat) : Int))), (3, .int (iI ((h0 : Nat) : Int))), (4, .int (iI ((p0 : Nat) : Int))), (5, .int (iI ((b0 : Nat) : Int))), (6, .int (iI ((i : Nat) : Int)))]) (fun i => 12 - i) (fun i => i ≤ 12) ?_ (0) (Nat.zero_le _)
  intro i hJ15 ih15
  try dsimp only at hJ15 ⊢
  refine v_iload C dX3_writePick_15 6 rfl ?_
  refine v_bipush C (z := 12) dX3_writePick_17 rfl ?_
  refine v_icmp_ge C 86 dX3_writePick_19 (by decide) ⟨by omega, by omega⟩ (b31_lit _ rfl) (fun c_1 => ?_) (fun c_1 => ?_)
  ·
    obtain rfl : i = 12 := by omega
    exact (v_vret C hr hl () (by decide) (by decide) rfl trivial dX3_writePick_86)
  ·
    refine v_aload_n C dX3_writePick_22 rfl 1 rfl ?_
    refine v_iload C dX3_writePick_23 6 rfl ?_
    refine v_iload C dX3_writePick_25 4 rfl ?_
    refine v_iload C dX3_writePick_27 5 rfl ?_
    refine v_invVI C (As := [.int (iI ((i : Nat) : Int)), .int (iI ((p0 : Nat) : Int)), .int (iI ((b0 : Nat) : Int))]) (q0 := 0) (ci := 4) (kX4_holdsSame l g (ta := ta) (tp := tp) (tlo := tlo) (thi := thi) (T := rowP T r0 i (pickF T h0 p0 b0)) (i0 := i) (r0 := p0) (f0 := b0) (by omega) (by omega) (by omega) (T128_row hT _ _ (pickF128 hT _ _ _))) (cwV 3 C.2.2.2.2.1 gX3_writePick_X4_holdsSame rfl rfl rfl (by decide +kernel) ⟨Nat.le_of_ble_eq_true rfl, Nat.le_of_ble_eq_true rfl⟩) [wScr g sa la qa, wLog g la l1 l2 l3 l4 l5 l6 l7 l8 l9 deed first second item side picked qcnt An An cm, wTab g ta tp tlo thi (rowP T r0 i (pickF T h0 p0 b0)) (rowP T r0 i (pickF T h0 p0 b0))] [2] [0, 1] [] (fun _ => [wScr g sa la qa, wLog g la l1 l2 l3 l4 l5 l6 l7 l8 l9 deed first second item side picked qcnt An An cm, wTab g ta tp tlo thi (rowP T r0 i (pickF T h0 p0 b0)) (rowP T r0 i (pickF T h0 p0 b0))]) (fun _ => wScr g sa la qa ++ (wLog g la l1 l2 l3 l4 l5 l6 l7 l8 l9 deed first second item side picked qcnt An An cm ++ (wTab g ta tp tlo thi (rowP T r0 i (pickF T h0 p0 b0)) (rowP T r0 i (pickF T h0 p0 b0)) ++ ([])))) rfl rfl rfl (fun _ => rfl) (fun _ => rfl) (fun _ => rfl) (fun _ => rfl) rfl rfl rfl rfl rfl (Nat.le_of_ble_eq_true rfl) dX3_writePick_29 ⟨by decide, by decide⟩ (fun r_3 _ h_2 => ?_)
    subst h_2
    refine v_ifz_eq C 46 dX3_writePick_32 (by decide) (fun c_4 => ?_) (fun c_4 => ?_)
    ·
      refine v_aload_n C dX3_writePick_46 rfl 1 rfl ?_
      refine v_iload C dX3_writePick_47 6 rfl ?_
      refine v_iload_n C dX3_writePick_49 rfl 3 rfl ?_
      refine v_iload C dX3_writePick_50 5 rfl ?_
      refine v_invVI C (As := [.int (iI ((i : Nat) : Int)), .int (iI ((h0 : Nat) : Int)), .int (iI ((b0 : Nat) : Int))]) (q0 := 0) (ci := 4) (kX4_holdsSame l g (ta := ta) (tp := tp) (tlo := tlo) (thi := thi) (T := rowP T r0 i (pickF T h0 p0 b0)) (i0 := i) (r0 := h0) (f0 := b0) (by omega) (by omega) (by omega) (T128_row hT _ _ (pickF128 hT _ _ _))) (cwV 3 C.2.2.2.2.1 gX3_writePick_X4_holdsSame rfl rfl rfl (by decide +kernel) ⟨Nat.le_of_ble_eq_true rfl, Nat.le_of_ble_eq_true rfl⟩) [wScr g sa la qa, wLog g la l1 l2 l3 l4 l5 l6 l7 l8 l9 deed first second item side picked qcnt An An cm, wTab g ta tp tlo thi (rowP T r0 i (pickF T h0 p0 b0)) (rowP T r0 i (pickF T h0 p0 b0))] [2] [0, 1] [] (fun _ => [wScr g sa la qa, wLog g la l1 l2 l3 l4 l5 l6 l7 l8 l9 deed first second item side picked qcnt An An cm, wTab g ta tp tlo thi (rowP T r0 i (pickF T h0 p0 b0)) (rowP T r0 i (pickF T h0 p0 b0))]) (fun _ => wScr g sa la qa ++ (wLog g la l1 l2 l3 l4 l5 l6 l7 l8 l9 deed first second item side picked qcnt An An cm ++ (wTab g ta tp tlo thi (rowP T r0 i (pickF T h0 p0 b0)) (rowP T r0 i (pickF T h0 p0 b0)) ++ ([])))) rfl rfl rfl (fun _ => rfl) (fun _ => rfl) (fun _ => rfl) (fun _ => rfl) rfl rfl rfl rfl rfl (Nat.le_of_ble_eq_true rfl) dX3_writePick_52 ⟨by decide, by decide⟩ (fun r_6 _ h_5 => ?_)
      subst h_5
      refine v_ifz_eq C 70 dX3_writePick_55 (by decide) (fun c_7 => ?_) (fun c_7 => ?_)
      ·
        refine v_aload_n C dX3_writePick_70 rfl 1 rfl ?_
        refine v_iload_n C dX3_writePick_71 rfl 2 rfl ?_
        refine v_iload C dX3_writePick_72 6 rfl ?_
        refine v_iload_n C dX3_writePick_74 rfl 3 rfl ?_
        refine v_iload C dX3_writePick_75 4 rfl ?_
        refine v_invVV C (As := [.int (iI ((r0 : Nat) : Int)), .int (iI ((i : Nat) : Int)), .int (iI ((h0 : Nat) : Int)), .int (iI ((p0 : Nat) : Int))]) (q0 := 0) (ci := 4) (kX4_holdAll l g (ta := ta) (tp := tp) (tlo := tlo) (thi := thi) (T := rowP T r0 i (pickF T h0 p0 b0)) (r0 := r0) (i0 := i) (f0 := h0) (f1 := p0) (by omega) (by omega) (by omega) (by omega)) (cwV 4 C.2.2.2.2.1 gX3_writePick_X4_holdAll rfl rfl rfl (by decide +kernel) ⟨Nat.le_of_ble_eq_true rfl, Nat.le_of_ble_eq_true rfl⟩) [wScr g sa la qa, wLog g la l1 l2 l3 l4 l5 l6 l7 l8 l9 deed first second item side picked qcnt An An cm, wTab g ta tp tlo thi (rowP T r0 i (pickF T h0 p0 b0)) (rowP T r0 i (pickF T h0 p0 b0))] [2] [0, 1] [] (fun _ => [wScr g sa la qa, wLog g la l1 l2 l3 l4 l5 l6 l7 l8 l9 deed first second item side picked qcnt An An cm, wTab g ta tp tlo thi (updN (rowP T r0 i (pickF T h0 p0 b0)) (12 * r0 + i) ((rowP T r0 i (pickF T h0 p0 b0)) (12 * h0 + i) ||| (rowP T r0 i (pickF T h0 p0 b0)) (12 * p0 + i))) (updN (rowP T r0 i (pickF T h0 p0 b0)) (12 * r0 + i) ((rowP T r0 i (pickF T h0 p0 b0)) (12 * h0 + i) ||| (rowP T r0 i (pickF T h0 p0 b0)) (12 * p0 + i)))]) (fun _ => wScr g sa la qa ++ (wLog g la l1 l2 l3 l4 l5 l6 l7 l8 l9 deed first second item side picked qcnt An An cm ++ (wTab g ta tp tlo thi (updN (rowP T r0 i (pickF T h0 p0 b0)) (12 * r0 + i) ((rowP T r0 i (pickF T h0 p0 b0)) (12 * h0 + i) ||| (rowP T r0 i (pickF T h0 p0 b0)) (12 * p0 + i))) (updN (rowP T r0 i (pickF T h0 p0 b0)) (12 * r0 + i) ((rowP T r0 i (pickF T h0 p0 b0)) (12 * h0 + i) ||| (rowP T r0 i (pickF T h0 p0 b0)) (12 * p0 + i))) ++ ([])))) rfl rfl rfl (fun _ => rfl) (fun _ => rfl) (fun _ => rfl) (fun _ => rfl) rfl rfl rfl rfl rfl (Nat.le_of_ble_eq_true rfl) dX3_writePick_77 ⟨by decide, by decide⟩ (fun _ h_8 => ?_)
        refine v_iinc C [(6, .int (iI (((i : Nat) : Int) + 1))), (0, .ref (sa)), (1, .ref (ta)), (2, .int (iI ((r0 : Nat) : Int))), (3, .int (iI ((h0 : Nat) : Int))), (4, .int (iI ((p0 : Nat) : Int))), (5, .int (iI ((b0 : Nat) : Int)))] dX3_writePick_80 6 rfl (by decide) rfl ?_
        rw [show ((i : Nat) : Int) + 1 = ((i + 1 : Nat) : Int) from rfl]
        refine v_goto C 15 dX3_writePick_83 (by decide) ?_
        refine v_lv (lv' := [(0, .ref (sa)), (1, .ref (ta)), (2, .int (iI ((r0 : Nat) : Int))), (3, .int (iI ((h0 : Nat) : Int))), (4, .int (iI ((p0 : Nat) : Int))), (5, .int (iI ((b0 : Nat) : Int))), (6, .int (iI ((i + 1 : Nat) : Int)))]) [1, 2, 3, 4, 5, 6, 0] rfl ?_
        refine v_ws (ws' := wScr g sa la qa ++ (wLog g la l1 l2 l3 l4 l5 l6 l7 l8 l9 deed first second item side picked qcnt An An cm ++ (wTab g ta tp tlo thi (rowP T r0 (i + 1) (pickF T h0 p0 b0)) (rowP T r0 (i + 1) (pickF T h0 p0 b0)) ++ ([])))) (by rw [pk_at (by omega) hh0 hp0 hb0 (pkc_c (of_decide_eq_false c_4) (of_decide_eq_false c_7))]) ?_
        exact ih15 (i + 1) (by omega) (by omega)
      ·
        refine v_aload_n C dX3_writePick_58 rfl 1 rfl ?_
        refine v_iload_n C dX3_writePick_59 rfl 2 rfl ?_
        refine v_iload C dX3_writePick_60 6 rfl ?_
        refine v_iload C dX3_writePick_62 4 rfl ?_
        refine v_invVV C (As := [.int (iI ((r0 : Nat) : Int)), .int (iI ((i : Nat) : Int)), .int (iI ((p0 : Nat) : Int))]) (q0 := 0) (ci := 4) (kX4_holdWhat l g (ta := ta) (tp := tp) (tlo := tlo) (thi := thi) (T := rowP T r0 i (pickF T h0 p0 b0)) (r0 := r0) (i0 := i) (f0 := p0) (by omega) (by omega) (by omega)) (cwV 3 C.2.2.2.2.1 gX3_writePick_X4_holdWhat rfl rfl rfl (by decide +kernel) ⟨Nat.le_of_ble_eq_true rfl, Nat.le_of_ble_eq_true rfl⟩) [wScr g sa la qa, wLog g la l1 l2 l3 l4 l5 l6 l7 l8 l9 deed first second item side picked qcnt An An cm, wTab g ta tp tlo thi (rowP T r0 i (pickF T h0 p0 b0)) (rowP T r0 i (pickF T h0 p0 b0))] [2] [0, 1] [] (fun _ => [wScr g sa la qa, wLog g la l1 l2 l3 l4 l5 l6 l7 l8 l9 deed first second item side picked qcnt An An cm, wTab g ta tp tlo thi (updN (rowP T r0 i (pickF T h0 p0 b0)) (12 * r0 + i) ((rowP T r0 i (pickF T h0 p0 b0)) (12 * p0 + i))) (updN (rowP T r0 i (pickF T h0 p0 b0)) (12 * r0 + i) ((rowP T r0 i (pickF T h0 p0 b0)) (12 * p0 + i)))]) (fun _ => wScr g sa la qa ++ (wLog g la l1 l2 l3 l4 l5 l6 l7 l8 l9 deed first second item side picked qcnt An An cm ++ (wTab g ta tp tlo thi (updN (rowP T r0 i (pickF T h0 p0 b0)) (12 * r0 + i) ((rowP T r0 i (pickF T h0 p0 b0)) (12 * p0 + i))) (updN (rowP T r0 i (pickF T h0 p0 b0)) (12 * r0 + i) ((rowP T r0 i (pickF T h0 p0 b0)) (12 * p0 + i))) ++ ([])))) rfl rfl rfl (fun _ => rfl) (fun _ => rfl) (fun _ => rfl) (fun _ => rfl) rfl rfl rfl rfl rfl (Nat.le_of_ble_eq_true rfl) dX3_writePick_64 ⟨by decide, by decide⟩ (fun _ h_10 => ?_)
        refine v_goto C 80 dX3_writePick_67 (by decide) ?_
        refine v_iinc C [(6, .int (iI (((i : Nat) : Int) + 1))), (0, .ref (sa)), (1, .ref (ta)), (2, .int (iI ((r0 : Nat) : Int))), (3, .int (iI ((h0 : Nat) : Int))), (4, .int (iI ((p0 : Nat) : Int))), (5, .int (iI ((b0 : Nat) : Int)))] dX3_writePick_80 6 rfl (by decide) rfl ?_
        rw [show ((i : Nat) : Int) + 1 = ((i + 1 : Nat) : Int) from rfl]
        refine v_goto C 15 dX3_writePick_83 (by decide) ?_
        refine v_lv (lv' := [(0, .ref (sa)), (1, .ref (ta)), (2, .int (iI ((r0 : Nat) : Int))), (3, .int (iI ((h0 : Nat) : Int))), (4, .int (iI ((p0 : Nat) : Int))), (5, .int (iI ((b0 : Nat) : Int))), (6, .int (iI ((i + 1 : Nat) : Int)))]) [1, 2, 3, 4, 5, 6, 0] rfl ?_
        refine v_ws (ws' := wScr g sa la qa ++ (wLog g la l1 l2 l3 l4 l5 l6 l7 l8 l9 deed first second item side picked qcnt An An cm ++ (wTab g ta tp tlo thi (rowP T r0 (i + 1) (pickF T h0 p0 b0)) (rowP T r0 (i + 1) (pickF T h0 p0 b0)) ++ ([])))) (by rw [pk_at (by omega) hh0 hp0 hb0 (pkc_b (of_decide_eq_false c_4) (of_decide_eq_true c_7))]) ?_
        exact ih15 (i + 1) (by omega) (by omega)
    ·
      refine v_aload_n C dX3_writePick_35 rfl 1 rfl ?_
      refine v_iload_n C dX3_writePick_36 rfl 2 rfl ?_
      refine v_iload C dX3_writePick_37 6 rfl ?_
      refine v_iload_n C dX3_writePick_39 rfl 3 rfl ?_
      refine v_invVV C (As := [.int (iI ((r0 : Nat) : Int)), .int (iI ((i : Nat) : Int)), .int (iI ((h0 : Nat) : Int))]) (q0 := 0) (ci := 4) (kX4_holdWhat l g (ta := ta) (tp := tp) (tlo := tlo) (thi := thi) (T := rowP T r0 i (pickF T h0 p0 b0)) (r0 := r0) (i0 := i) (f0 := h0) (by omega) (by omega) (by omega)) (cwV 3 C.2.2.2.2.1 gX3_writePick_X4_holdWhat rfl rfl rfl (by decide +kernel) ⟨Nat.le_of_ble_eq_true rfl, Nat.le_of_ble_eq_true rfl⟩) [wScr g sa la qa, wLog g la l1 l2 l3 l4 l5 l6 l7 l8 l9 deed first second item side picked qcnt An An cm, wTab g ta tp tlo thi (rowP T r0 i (pickF T h0 p0 b0)) (rowP T r0 i (pickF T h0 p0 b0))] [2] [0, 1] [] (fun _ => [wScr g sa la qa, wLog g la l1 l2 l3 l4 l5 l6 l7 l8 l9 deed first second item side picked qcnt An An cm, wTab g ta tp tlo thi (updN (rowP T r0 i (pickF T h0 p0 b0)) (12 * r0 + i) ((rowP T r0 i (pickF T h0 p0 b0)) (12 * h0 + i))) (updN (rowP T r0 i (pickF T h0 p0 b0)) (12 * r0 + i) ((rowP T r0 i (pickF T h0 p0 b0)) (12 * h0 + i)))]) (fun _ => wScr g sa la qa ++ (wLog g la l1 l2 l3 l4 l5 l6 l7 l8 l9 deed first second item side picked qcnt An An cm ++ (wTab g ta tp tlo thi (updN (rowP T r0 i (pickF T h0 p0 b0)) (12 * r0 + i) ((rowP T r0 i (pickF T h0 p0 b0)) (12 * h0 + i))) (updN (rowP T r0 i (pickF T h0 p0 b0)) (12 * r0 + i) ((rowP T r0 i (pickF T h0 p0 b0)) (12 * h0 + i))) ++ ([])))) rfl rfl rfl (fun _ => rfl) (fun _ => rfl) (fun _ => rfl) (fun _ => rfl) rfl rfl rfl rfl rfl (Nat.le_of_ble_eq_true rfl) dX3_writePick_40 ⟨by decide, by decide⟩ (fun _ h_12 => ?_)
      refine v_goto C 80 dX3_writePick_43 (by decide) ?_
      refine v_iinc C [(6, .int (iI (((i : Nat) : Int) + 1))), (0, .ref (sa)), (1, .ref (ta)), (2, .int (iI ((r0 : Nat) : Int))), (3, .int (iI ((h0 : Nat) : Int))), (4, .int (iI ((p0 : Nat) : Int))), (5, .int (iI ((b0 : Nat) : Int)))] dX3_writePick_80 6 rfl (by decide) rfl ?_
      rw [show ((i : Nat) : Int) + 1 = ((i + 1 : Nat) : Int) from rfl]
      refine v_goto C 15 dX3_writePick_83 (by decide) ?_
      refine v_lv (lv' := [(0, .ref (sa)), (1, .ref (ta)), (2, .int (iI ((r0 : Nat) : Int))), (3, .int (iI ((h0 : Nat) : Int))), (4, .int (iI ((p0 : Nat) : Int))), (5, .int (iI ((b0 : Nat) : Int))), (6, .int (iI ((i + 1 : Nat) : Int)))]) [1, 2, 3, 4, 5, 6, 0] rfl ?_
      refine v_ws (ws' := wScr g sa la qa ++ (wLog g la l1 l2 l3 l4 l5 l6 l7 l8 l9 deed first second item side picked qcnt An An cm ++ (wTab g ta tp tlo thi (rowP T r0 (i + 1) (pickF T h0 p0 b0)) (rowP T r0 (i + 1) (pickF T h0 p0 b0)) ++ ([])))) (by rw [pk_at (by omega) hh0 hp0 hb0 (pkc_a (of_decide_eq_true c_4))]) ?_
      exact ih15 (i + 1) (by omega) (by omega)
theorem inX3_write_3 : ∀ w ∈ u_ws RX3 TX3 2, w ∈ wsX3_write := by decide +kernel
theorem lkX3_write_9 : Cond.fieldLink RX3 9 "MergeAtelier$Scribe" "log" "LMergeAtelier$Log;" ∈ wsX3_write := by decide +kernel
theorem inX3_write_0 : ∀ w ∈ u_ws RX0 TX0 10, w ∈ wsX3_write := by decide +kernel
theorem lkX3_write_19 : Cond.fieldLink RX3 19 "MergeAtelier$Log" "deed" "[I" ∈ wsX3_write := by decide +kernel
theorem lkX3_write_25 : Cond.fieldLink RX3 25 "MergeAtelier$Log" "first" "[I" ∈ wsX3_write := by decide +kernel
theorem lkX3_write_34 : Cond.fieldLink RX3 34 "MergeAtelier$Log" "item" "[I" ∈ wsX3_write := by decide +kernel
theorem lkX3_write_37 : Cond.fieldLink RX3 37 "MergeAtelier$Log" "side" "[I" ∈ wsX3_write := by decide +kernel
theorem lkX3_write_44 : Cond.fieldLink RX3 44 "MergeAtelier$Log" "second" "[I" ∈ wsX3_write := by decide +kernel
theorem lkX3_write_47 : Cond.fieldLink RX3 47 "MergeAtelier$Log" "quoteCount" "[I" ∈ wsX3_write := by decide +kernel
theorem lkX3_write_54 : Cond.fieldLink RX3 54 "MergeAtelier$Log" "picked" "[I" ∈ wsX3_write := by decide +kernel
set_option maxHeartbeats 4000000 in
set_option maxRecDepth 100000 in
theorem kX3_write (l : Launch) (g : vG) {sa : Nat} {la : Nat} {l1 l2 l3 l4 l5 l6 l7 l8 l9 : Nat} {deed item side picked qcnt An : Nat → Nat} {first second : Nat → Int} {cm : Nat} {qa : Nat} {q1 q2 q3 : Nat} {qi qo : Nat → Nat} {qs : Nat → Int} {qc : Nat} {ta tp tlo thi : Nat} {T : Nat → Nat} {tv tr : Nat} {vals : Nat → Int} {ris : Nat → Nat} {cn : Nat} {j0 : Nat} (hj0 : j0 < 100) (hcn : cn ≤ 100) (hT : T128 T) (hqb : ∀ k, k < 10 → qi k < 12 ∧ qo k < 12 ∧ -99 ≤ qs k ∧ qs k ≤ 99) (hv : ∀ k, -1000 ≤ vals k ∧ vals k ≤ 999) (hlok : lok deed item side picked qcnt first second j0) : mV l g yX3_write wsX3_write ({ frames := 4, cells := 0, slots := 0, locals := 102 }) [.ref (sa), .ref (ta), .int (iI ((j0 : Nat) : Int))] (wScr g sa la qa ++ (wLog g la l1 l2 l3 l4 l5 l6 l7 l8 l9 deed first second item side picked qcnt An An cm ++ (wQuo g qa q1 q2 q3 qi qo qs qc ++ (wTab g ta tp tlo thi T T ++ (wPal g tp tv tr vals ris cn ++ ([])))))) (fun _ : Unit => wScr g sa la qa ++ (wLog g la l1 l2 l3 l4 l5 l6 l7 l8 l9 deed first second item side picked qcnt An An cm ++ (wQuo g qa q1 q2 q3 qi qo qs qc ++ (wTab g ta tp tlo thi (wrT vals cn qi qo qs deed item side picked qcnt An first second T j0) (wrT vals cn qi qo qs deed item side picked qcnt An first second T j0) ++ (wPal g tp tv tr vals ris cn ++ ([])))))) (fun _ => True) 0 0 := by
  refine mV_of (cc := cX3_write) (maxL := 3) (ret := none) (own := RX3) (by decide) rfl rfl (Nat.le_of_ble_eq_true rfl) ?_
  intro p e s m args below meth c A C hr hl hin
  refine v_aload_n C dX3_write_0 rfl 0 rfl ?_
  refine v_get C 0 (kf := 0) rfl rfl (by decide) inX3_write_3 lkX3_write_9 rfl rfl dX3_write_1 ?_
  refine v_get C 1 (kf := 0) rfl rfl (by decide) inX3_write_0 lkX3_write_19 rfl rfl dX3_write_4 ?_
  refine v_iload_n C dX3_write_7 rfl 2 rfl ?_
  refine v_ialdn C 2 (j0) rfl rfl (by omega) (by decide) dX3_write_8 ?_
  by_cases hd1 : deed j0 = 1
  ·
    obtain ⟨f0, e1, e2, e3, e4⟩ := hlok.2.1 hd1
    refine v_tsw C 0 27 36 dX3_write_9 ⟨by omega, by omega⟩ (by rw [hd1]; rfl) (by omega) rfl (by decide) ?_
    refine v_aload_n C dX3_write_36 rfl 1 rfl ?_
    refine v_iload_n C dX3_write_37 rfl 2 rfl ?_
    refine v_aload_n C dX3_write_38 rfl 0 rfl ?_
    refine v_get C 0 (kf := 0) rfl rfl (by decide) inX3_write_3 lkX3_write_9 rfl rfl dX3_write_39 ?_
    refine v_get C 1 (kf := 1) rfl rfl (by decide) inX3_write_0 lkX3_write_25 rfl rfl dX3_write_42 ?_
    refine v_iload_n C dX3_write_45 rfl 2 rfl ?_
    refine v_iald C 3 (j0) rfl rfl (by omega) (by decide) dX3_write_46 ?_
    rw [e1]
    refine v_invVV C (As := [.int (iI ((j0 : Nat) : Int)), .int (iI ((f0 : Nat) : Int))]) (q0 := 0) (ci := 4) (kX4_copyRow l g (ta := ta) (tp := tp) (tlo := tlo) (thi := thi) (T := T) (r0 := j0) (f0 := f0) (by omega) (by omega)) (cwV 2 C.2.2.2.2.1 gX3_write_X4_copyRow rfl rfl rfl (by decide +kernel) ⟨Nat.le_of_ble_eq_true rfl, Nat.le_of_ble_eq_true rfl⟩) [wScr g sa la qa, wLog g la l1 l2 l3 l4 l5 l6 l7 l8 l9 deed first second item side picked qcnt An An cm, wQuo g qa q1 q2 q3 qi qo qs qc, wTab g ta tp tlo thi T T, wPal g tp tv tr vals ris cn] [3] [0, 1, 2, 4] [] (fun _ => [wScr g sa la qa, wLog g la l1 l2 l3 l4 l5 l6 l7 l8 l9 deed first second item side picked qcnt An An cm, wQuo g qa q1 q2 q3 qi qo qs qc, wTab g ta tp tlo thi (rowP T j0 12 (fun i => T (12 * f0 + i))) (rowP T j0 12 (fun i => T (12 * f0 + i))), wPal g tp tv tr vals ris cn]) (fun _ => wScr g sa la qa ++ (wLog g la l1 l2 l3 l4 l5 l6 l7 l8 l9 deed first second item side picked qcnt An An cm ++ (wQuo g qa q1 q2 q3 qi qo qs qc ++ (wTab g ta tp tlo thi (rowP T j0 12 (fun i => T (12 * f0 + i))) (rowP T j0 12 (fun i => T (12 * f0 + i))) ++ (wPal g tp tv tr vals ris cn ++ ([])))))) rfl rfl rfl (fun _ => rfl) (fun _ => rfl) (fun _ => rfl) (fun _ => rfl) rfl rfl rfl rfl rfl (Nat.le_of_ble_eq_true rfl) dX3_write_47 ⟨by decide, by decide⟩ (fun _ h_1 => ?_)
    refine v_aload_n C dX3_write_50 rfl 1 rfl ?_
    refine v_iload_n C dX3_write_51 rfl 2 rfl ?_
    refine v_aload_n C dX3_write_52 rfl 0 rfl ?_
    refine v_get C 0 (kf := 0) rfl rfl (by decide) inX3_write_3 lkX3_write_9 rfl rfl dX3_write_53 ?_
    refine v_get C 1 (kf := 3) rfl rfl (by decide) inX3_write_0 lkX3_write_34 rfl rfl dX3_write_56 ?_
    refine v_iload_n C dX3_write_59 rfl 2 rfl ?_
    refine v_ialdn C 5 (j0) rfl rfl (by omega) (by decide) dX3_write_60 ?_
    refine v_aload_n C dX3_write_61 rfl 0 rfl ?_
    refine v_get C 0 (kf := 0) rfl rfl (by decide) inX3_write_3 lkX3_write_9 rfl rfl dX3_write_62 ?_
    refine v_get C 1 (kf := 4) rfl rfl (by decide) inX3_write_0 lkX3_write_37 rfl rfl dX3_write_65 ?_
    refine v_iload_n C dX3_write_68 rfl 2 rfl ?_
    refine v_ialdn C 6 (j0) rfl rfl (by omega) (by decide) dX3_write_69 ?_
    refine v_invVV C (As := [.int (iI ((j0 : Nat) : Int)), .int (iI ((item (j0) : Nat) : Int)), .int (iI ((side (j0) : Nat) : Int))]) (q0 := 0) (ci := 4) (kX4_holdSide l g (ta := ta) (tp := tp) (tlo := tlo) (thi := thi) (T := rowP T j0 12 (fun i => T (12 * f0 + i))) (r0 := j0) (i0 := item (j0)) (sd := side (j0)) (by omega) (by omega) (by omega)) (cwV 3 C.2.2.2.2.1 gX3_write_X4_holdSide rfl rfl rfl (by decide +kernel) ⟨Nat.le_of_ble_eq_true rfl, Nat.le_of_ble_eq_true rfl⟩) [wScr g sa la qa, wLog g la l1 l2 l3 l4 l5 l6 l7 l8 l9 deed first second item side picked qcnt An An cm, wQuo g qa q1 q2 q3 qi qo qs qc, wTab g ta tp tlo thi (rowP T j0 12 (fun i => T (12 * f0 + i))) (rowP T j0 12 (fun i => T (12 * f0 + i))), wPal g tp tv tr vals ris cn] [3] [0, 1, 2, 4] [] (fun _ => [wScr g sa la qa, wLog g la l1 l2 l3 l4 l5 l6 l7 l8 l9 deed first second item side picked qcnt An An cm, wQuo g qa q1 q2 q3 qi qo qs qc, wTab g ta tp tlo thi (updN (rowP T j0 12 (fun i => T (12 * f0 + i))) (12 * j0 + (item (j0))) (2 ^ (side (j0)))) (updN (rowP T j0 12 (fun i => T (12 * f0 + i))) (12 * j0 + (item (j0))) (2 ^ (side (j0)))), wPal g tp tv tr vals ris cn]) (fun _ => wScr g sa la qa ++ (wLog g la l1 l2 l3 l4 l5 l6 l7 l8 l9 deed first second item side picked qcnt An An cm ++ (wQuo g qa q1 q2 q3 qi qo qs qc ++ (wTab g ta tp tlo thi (updN (rowP T j0 12 (fun i => T (12 * f0 + i))) (12 * j0 + (item (j0))) (2 ^ (side (j0)))) (updN (rowP T j0 12 (fun i => T (12 * f0 + i))) (12 * j0 + (item (j0))) (2 ^ (side (j0)))) ++ (wPal g tp tv tr vals ris cn ++ ([])))))) rfl rfl rfl (fun _ => rfl) (fun _ => rfl) (fun _ => rfl) (fun _ => rfl) rfl rfl rfl rfl rfl (Nat.le_of_ble_eq_true rfl) dX3_write_70 ⟨by decide, by decide⟩ (fun _ h_3 => ?_)
    refine v_goto C 144 dX3_write_73 (by decide) ?_
    exact (v_vret C hr hl () (by decide) (by decide) (by unfold wrT; rw [if_pos hd1, e1]; rfl) trivial dX3_write_144)
  ·
    by_cases hd2 : deed j0 = 2
    ·
      obtain ⟨f0, f1, e1, e2, e3, e4, e5⟩ := hlok.2.2.1 hd2
      refine v_tsw C 1 67 76 dX3_write_9 ⟨by omega, by omega⟩ (by rw [hd2]; rfl) (by omega) rfl (by decide) ?_
      refine v_aload_n C dX3_write_76 rfl 0 rfl ?_
      refine v_aload_n C dX3_write_77 rfl 1 rfl ?_
      refine v_iload_n C dX3_write_78 rfl 2 rfl ?_
      refine v_aload_n C dX3_write_79 rfl 0 rfl ?_
      refine v_get C 0 (kf := 0) rfl rfl (by decide) inX3_write_3 lkX3_write_9 rfl rfl dX3_write_80 ?_
      refine v_get C 1 (kf := 1) rfl rfl (by decide) inX3_write_0 lkX3_write_25 rfl rfl dX3_write_83 ?_
      refine v_iload_n C dX3_write_86 rfl 2 rfl ?_
      refine v_iald C 3 (j0) rfl rfl (by omega) (by decide) dX3_write_87 ?_
      rw [e1]
      refine v_aload_n C dX3_write_88 rfl 0 rfl ?_
      refine v_get C 0 (kf := 0) rfl rfl (by decide) inX3_write_3 lkX3_write_9 rfl rfl dX3_write_89 ?_
      refine v_get C 1 (kf := 2) rfl rfl (by decide) inX3_write_0 lkX3_write_44 rfl rfl dX3_write_92 ?_
      refine v_iload_n C dX3_write_95 rfl 2 rfl ?_
      refine v_iald C 4 (j0) rfl rfl (by omega) (by decide) dX3_write_96 ?_
      rw [e2]
      refine v_aload_n C dX3_write_97 rfl 0 rfl ?_
      refine v_get C 0 (kf := 0) rfl rfl (by decide) inX3_write_3 lkX3_write_9 rfl rfl dX3_write_98 ?_
      refine v_get C 1 (kf := 6) rfl rfl (by decide) inX3_write_0 lkX3_write_47 rfl rfl dX3_write_101 ?_
      refine v_iload_n C dX3_write_104 rfl 2 rfl ?_
      refine v_ialdn C 8 (j0) rfl rfl (by omega) (by decide) dX3_write_105 ?_
      refine v_invVV C (As := [.ref (ta), .int (iI ((j0 : Nat) : Int)), .int (iI ((f0 : Nat) : Int)), .int (iI ((f1 : Nat) : Int)), .int (iI ((qcnt (j0) : Nat) : Int))]) (q0 := 0) (ci := 3) (kX3_writeMerge l g (sa := sa) (la := la) (l1 := l1) (l2 := l2) (l3 := l3) (l4 := l4) (l5 := l5) (l6 := l6) (l7 := l7) (l8 := l8) (l9 := l9) (deed := deed) (item := item) (side := side) (picked := picked) (qcnt := qcnt) (An := An) (first := first) (second := second) (cm := cm) (qa := qa) (q1 := q1) (q2 := q2) (q3 := q3) (qi := qi) (qo := qo) (qs := qs) (qc := qc) (ta := ta) (tp := tp) (tlo := tlo) (thi := thi) (T := T) (tv := tv) (tr := tr) (vals := vals) (ris := ris) (cn := cn) (r0 := j0) (f0 := f0) (f1 := f1) (qn := qcnt (j0)) (by omega) (by omega) (by omega) (by omega) (by omega) (by omega) (by omega) hT hqb hv) (cwV 5 C.2.2.2.2.1 gX3_write_X3_writeMerge rfl rfl rfl (by decide +kernel) ⟨Nat.le_of_ble_eq_true rfl, Nat.le_of_ble_eq_true rfl⟩) [wScr g sa la qa, wLog g la l1 l2 l3 l4 l5 l6 l7 l8 l9 deed first second item side picked qcnt An An cm, wQuo g qa q1 q2 q3 qi qo qs qc, wTab g ta tp tlo thi T T, wPal g tp tv tr vals ris cn] [0, 1, 2, 3, 4] [] [] (fun _ => [wScr g sa la qa, wLog g la l1 l2 l3 l4 l5 l6 l7 l8 l9 deed first second item side picked qcnt An An cm, wQuo g qa q1 q2 q3 qi qo qs qc, wTab g ta tp tlo thi (mgT vals cn qi qo qs An T f0 f1 j0 (qcnt (j0))) (mgT vals cn qi qo qs An T f0 f1 j0 (qcnt (j0))), wPal g tp tv tr vals ris cn]) (fun _ => wScr g sa la qa ++ (wLog g la l1 l2 l3 l4 l5 l6 l7 l8 l9 deed first second item side picked qcnt An An cm ++ (wQuo g qa q1 q2 q3 qi qo qs qc ++ (wTab g ta tp tlo thi (mgT vals cn qi qo qs An T f0 f1 j0 (qcnt (j0))) (mgT vals cn qi qo qs An T f0 f1 j0 (qcnt (j0))) ++ (wPal g tp tv tr vals ris cn ++ ([])))))) rfl rfl rfl (fun _ => rfl) (fun _ => rfl) (fun _ => rfl) (fun _ => rfl) rfl rfl rfl rfl rfl (Nat.le_of_ble_eq_true rfl) dX3_write_106 ⟨by decide, by decide⟩ (fun _ h_5 => ?_)
      refine v_goto C 144 dX3_write_109 (by decide) ?_
      exact (v_vret C hr hl () (by decide) (by decide) (by unfold wrT; rw [if_neg hd1, if_pos hd2, e1, e2]; rfl) trivial dX3_write_144)
    ·
      by_cases hd3 : deed j0 = 3
      ·
        obtain ⟨f0, b0, e1, e2, e3, e4, e5⟩ := hlok.2.2.2 hd3
        refine v_tsw C 2 103 112 dX3_write_9 ⟨by omega, by omega⟩ (by rw [hd3]; rfl) (by omega) rfl (by decide) ?_
        refine v_aload_n C dX3_write_112 rfl 0 rfl ?_
        refine v_aload_n C dX3_write_113 rfl 1 rfl ?_
        refine v_iload_n C dX3_write_114 rfl 2 rfl ?_
        refine v_aload_n C dX3_write_115 rfl 0 rfl ?_
        refine v_get C 0 (kf := 0) rfl rfl (by decide) inX3_write_3 lkX3_write_9 rfl rfl dX3_write_116 ?_
        refine v_get C 1 (kf := 1) rfl rfl (by decide) inX3_write_0 lkX3_write_25 rfl rfl dX3_write_119 ?_
        refine v_iload_n C dX3_write_122 rfl 2 rfl ?_
        refine v_iald C 3 (j0) rfl rfl (by omega) (by decide) dX3_write_123 ?_
        rw [e1]
        refine v_aload_n C dX3_write_124 rfl 0 rfl ?_
        refine v_get C 0 (kf := 0) rfl rfl (by decide) inX3_write_3 lkX3_write_9 rfl rfl dX3_write_125 ?_
        refine v_get C 1 (kf := 5) rfl rfl (by decide) inX3_write_0 lkX3_write_54 rfl rfl dX3_write_128 ?_
        refine v_iload_n C dX3_write_131 rfl 2 rfl ?_
        refine v_ialdn C 7 (j0) rfl rfl (by omega) (by decide) dX3_write_132 ?_
        refine v_invVV C (As := [.ref (ta), .int (iI ((j0 : Nat) : Int)), .int (iI ((f0 : Nat) : Int)), .int (iI ((picked (j0) : Nat) : Int))]) (q0 := 0) (ci := 3) (kX3_writePick l g (sa := sa) (qa := qa) (la := la) (l1 := l1) (l2 := l2) (l3 := l3) (l4 := l4) (l5 := l5) (l6 := l6) (l7 := l7) (l8 := l8) (l9 := l9) (deed := deed) (item := item) (side := side) (picked := picked) (qcnt := qcnt) (An := An) (first := first) (second := second) (cm := cm) (ta := ta) (tp := tp) (tlo := tlo) (thi := thi) (T := T) (r0 := j0) (h0 := f0) (p0 := picked (j0)) (b0 := b0) (by omega) (by omega) (by omega) (by omega) e4 hT) (cwV 4 C.2.2.2.2.1 gX3_write_X3_writePick rfl rfl rfl (by decide +kernel) ⟨Nat.le_of_ble_eq_true rfl, Nat.le_of_ble_eq_true rfl⟩) [wScr g sa la qa, wLog g la l1 l2 l3 l4 l5 l6 l7 l8 l9 deed first second item side picked qcnt An An cm, wQuo g qa q1 q2 q3 qi qo qs qc, wTab g ta tp tlo thi T T, wPal g tp tv tr vals ris cn] [0, 1, 3] [2, 4] [] (fun _ => [wScr g sa la qa, wLog g la l1 l2 l3 l4 l5 l6 l7 l8 l9 deed first second item side picked qcnt An An cm, wQuo g qa q1 q2 q3 qi qo qs qc, wTab g ta tp tlo thi (rowP T j0 12 (pickF T f0 (picked (j0)) b0)) (rowP T j0 12 (pickF T f0 (picked (j0)) b0)), wPal g tp tv tr vals ris cn]) (fun _ => wScr g sa la qa ++ (wLog g la l1 l2 l3 l4 l5 l6 l7 l8 l9 deed first second item side picked qcnt An An cm ++ (wQuo g qa q1 q2 q3 qi qo qs qc ++ (wTab g ta tp tlo thi (rowP T j0 12 (pickF T f0 (picked (j0)) b0)) (rowP T j0 12 (pickF T f0 (picked (j0)) b0)) ++ (wPal g tp tv tr vals ris cn ++ ([])))))) rfl rfl rfl (fun _ => rfl) (fun _ => rfl) (fun _ => rfl) (fun _ => rfl) rfl rfl rfl rfl rfl (Nat.le_of_ble_eq_true rfl) dX3_write_133 ⟨by decide, by decide⟩ (fun _ h_7 => ?_)
        refine v_goto C 144 dX3_write_136 (by decide) ?_
        exact (v_vret C hr hl () (by decide) (by decide) (by unfold wrT; rw [if_neg hd1, if_neg hd2, if_pos hd3, e1, e4]; rfl) trivial dX3_write_144)
      ·
        have hd0 := hlok.1
        refine v_tswOut C 139 dX3_write_9 ⟨by omega, by omega⟩ (by omega) (by decide) ?_
        refine v_aload_n C dX3_write_139 rfl 1 rfl ?_
        refine v_iload_n C dX3_write_140 rfl 2 rfl ?_
        refine v_invVV C (As := [.int (iI ((j0 : Nat) : Int))]) (q0 := 0) (ci := 4) (kX4_emptyRow l g (ta := ta) (tp := tp) (tlo := tlo) (thi := thi) (T := T) (r0 := j0) (by omega)) (cwV 1 C.2.2.2.2.1 gX3_write_X4_emptyRow rfl rfl rfl (by decide +kernel) ⟨Nat.le_of_ble_eq_true rfl, Nat.le_of_ble_eq_true rfl⟩) [wScr g sa la qa, wLog g la l1 l2 l3 l4 l5 l6 l7 l8 l9 deed first second item side picked qcnt An An cm, wQuo g qa q1 q2 q3 qi qo qs qc, wTab g ta tp tlo thi T T, wPal g tp tv tr vals ris cn] [3] [0, 1, 2, 4] [] (fun _ => [wScr g sa la qa, wLog g la l1 l2 l3 l4 l5 l6 l7 l8 l9 deed first second item side picked qcnt An An cm, wQuo g qa q1 q2 q3 qi qo qs qc, wTab g ta tp tlo thi (rowP T j0 12 (fun _ => 1)) (rowP T j0 12 (fun _ => 1)), wPal g tp tv tr vals ris cn]) (fun _ => wScr g sa la qa ++ (wLog g la l1 l2 l3 l4 l5 l6 l7 l8 l9 deed first second item side picked qcnt An An cm ++ (wQuo g qa q1 q2 q3 qi qo qs qc ++ (wTab g ta tp tlo thi (rowP T j0 12 (fun _ => 1)) (rowP T j0 12 (fun _ => 1)) ++ (wPal g tp tv tr vals ris cn ++ ([])))))) rfl rfl rfl (fun _ => rfl) (fun _ => rfl) (fun _ => rfl) (fun _ => rfl) rfl rfl rfl rfl rfl (Nat.le_of_ble_eq_true rfl) dX3_write_141 ⟨by decide, by decide⟩ (fun _ h_9 => ?_)
        exact (v_vret C hr hl () (by decide) (by decide) (by unfold wrT; rw [if_neg hd1, if_neg hd2, if_neg hd3]) trivial dX3_write_144)
