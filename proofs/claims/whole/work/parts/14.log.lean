set_option maxHeartbeats 4000000 in
set_option maxRecDepth 100000 in
theorem kX0_addAncestorsOf_n (l : Launch) (g : vG) {la : Nat} {l1 l2 l3 l4 l5 l6 l7 l8 l9 : Nat} {deed item side picked qcnt An : Nat → Nat} {first second : Nat → Int} {cm : Nat} {c0 : Nat} (hc0 : c0 < 100) : mV l g yX0_addAncestorsOf wsX0_addAncestorsOf ({ frames := 0, cells := 0, slots := 0, locals := 0 }) [.ref (la), .int (iI ((c0 : Nat) : Int)), .int (iI (-1))] (wLog g la l1 l2 l3 l4 l5 l6 l7 l8 l9 deed first second item side picked qcnt An An cm ++ ([])) (fun _ : Unit => wLog g la l1 l2 l3 l4 l5 l6 l7 l8 l9 deed first second item side picked qcnt An An cm ++ ([])) (fun _ => True) 0 0 := by
  refine mV_of (cc := cX0_addAncestorsOf) (maxL := 3) (ret := none) (own := RX0) (by decide) rfl rfl (Nat.le_of_ble_eq_true rfl) ?_
  intro p e s m args below meth c A C hr hl hin
  refine v_iload_n C dX0_addAncestorsOf_0 rfl 2 rfl ?_
  refine v_iconst C (z := -1) dX0_addAncestorsOf_1 ?_
  refine v_icmp_eq C 35 dX0_addAncestorsOf_2 (by decide) (b31_lit _ rfl) (b31_lit _ rfl) (fun c_1 => ?_) (fun c_1 => ?_)
  ·
    exact (v_vret C hr hl () (by decide) (by decide) rfl trivial dX0_addAncestorsOf_35)
  ·
    exfalso; omega
theorem inX0_addAncestorsOf_0 : ∀ w ∈ u_ws RX0 TX0 10, w ∈ wsX0_addAncestorsOf := by decide +kernel
theorem lkX0_addAncestorsOf_33 : Cond.fieldLink RX0 33 "MergeAtelier$Log" "lowAncestors" "[J" ∈ wsX0_addAncestorsOf := by decide +kernel
theorem lkX0_addAncestorsOf_37 : Cond.fieldLink RX0 37 "MergeAtelier$Log" "highAncestors" "[J" ∈ wsX0_addAncestorsOf := by decide +kernel
set_option maxHeartbeats 4000000 in
set_option maxRecDepth 100000 in
theorem kX0_addAncestorsOf_s (l : Launch) (g : vG) {la : Nat} {l1 l2 l3 l4 l5 l6 l7 l8 l9 : Nat} {deed item side picked qcnt An : Nat → Nat} {first second : Nat → Int} {cm : Nat} {c0 k0 : Nat} (hc0 : c0 < 100) (hk0 : k0 < 100) : mV l g yX0_addAncestorsOf wsX0_addAncestorsOf ({ frames := 0, cells := 0, slots := 0, locals := 0 }) [.ref (la), .int (iI ((c0 : Nat) : Int)), .int (iI ((k0 : Nat) : Int))] (wLog g la l1 l2 l3 l4 l5 l6 l7 l8 l9 deed first second item side picked qcnt An An cm ++ ([])) (fun _ : Unit => wLog g la l1 l2 l3 l4 l5 l6 l7 l8 l9 deed first second item side picked qcnt (updN An (c0) (An (c0) ||| An (k0))) (updN An (c0) (An (c0) ||| An (k0))) cm ++ ([])) (fun _ => True) 0 0 := by
  refine mV_of (cc := cX0_addAncestorsOf) (maxL := 3) (ret := none) (own := RX0) (by decide) rfl rfl (Nat.le_of_ble_eq_true rfl) ?_
  intro p e s m args below meth c A C hr hl hin
  refine v_iload_n C dX0_addAncestorsOf_0 rfl 2 rfl ?_
  refine v_iconst C (z := -1) dX0_addAncestorsOf_1 ?_
  refine v_icmp_eq C 35 dX0_addAncestorsOf_2 (by decide) ⟨by omega, by omega⟩ (b31_lit _ rfl) (fun c_1 => ?_) (fun c_1 => ?_)
  ·
    exfalso; omega
  ·
    refine v_aload_n C dX0_addAncestorsOf_5 rfl 0 rfl ?_
    refine v_get C 0 (kf := 7) rfl rfl (by decide) inX0_addAncestorsOf_0 lkX0_addAncestorsOf_33 rfl rfl dX0_addAncestorsOf_6 ?_
    refine v_iload_n C dX0_addAncestorsOf_9 rfl 1 rfl ?_
    refine v_dup2 C dX0_addAncestorsOf_10 rfl rfl ?_
    refine v_lald C 8 (c0) rfl rfl (by omega) (by decide) dX0_addAncestorsOf_11 ?_
    refine v_aload_n C dX0_addAncestorsOf_12 rfl 0 rfl ?_
    refine v_get C 0 (kf := 7) rfl rfl (by decide) inX0_addAncestorsOf_0 lkX0_addAncestorsOf_33 rfl rfl dX0_addAncestorsOf_13 ?_
    refine v_iload_n C dX0_addAncestorsOf_16 rfl 2 rfl ?_
    refine v_lald C 8 (k0) rfl rfl (by omega) (by decide) dX0_addAncestorsOf_17 ?_
    refine v_lor_lo C dX0_addAncestorsOf_18 ?_
    refine v_last C 8 (c0) (xl (updN An (c0) ((An (c0)) ||| (An (k0))))) (wLog g la l1 l2 l3 l4 l5 l6 l7 l8 l9 deed first second item side picked qcnt (updN An (c0) ((An (c0)) ||| (An (k0)))) An cm ++ ([])) rfl rfl (by omega) (by decide) dX0_addAncestorsOf_19 (xl_upd _ _ _) rfl ?_
    refine v_aload_n C dX0_addAncestorsOf_20 rfl 0 rfl ?_
    refine v_get C 0 (kf := 8) rfl rfl (by decide) inX0_addAncestorsOf_0 lkX0_addAncestorsOf_37 rfl rfl dX0_addAncestorsOf_21 ?_
    refine v_iload_n C dX0_addAncestorsOf_24 rfl 1 rfl ?_
    refine v_dup2 C dX0_addAncestorsOf_25 rfl rfl ?_
    refine v_lald C 9 (c0) rfl rfl (by omega) (by decide) dX0_addAncestorsOf_26 ?_
    refine v_aload_n C dX0_addAncestorsOf_27 rfl 0 rfl ?_
    refine v_get C 0 (kf := 8) rfl rfl (by decide) inX0_addAncestorsOf_0 lkX0_addAncestorsOf_37 rfl rfl dX0_addAncestorsOf_28 ?_
    refine v_iload_n C dX0_addAncestorsOf_31 rfl 2 rfl ?_
    refine v_lald C 9 (k0) rfl rfl (by omega) (by decide) dX0_addAncestorsOf_32 ?_
    refine v_lor_hi C dX0_addAncestorsOf_33 ?_
    refine v_last C 9 (c0) (xh (updN An (c0) ((An (c0)) ||| (An (k0))))) (wLog g la l1 l2 l3 l4 l5 l6 l7 l8 l9 deed first second item side picked qcnt (updN An (c0) ((An (c0)) ||| (An (k0)))) (updN An (c0) ((An (c0)) ||| (An (k0)))) cm ++ ([])) rfl rfl (by omega) (by decide) dX0_addAncestorsOf_34 (xh_upd _ _ _) rfl ?_
    exact (v_vret C hr hl () (by decide) (by decide) rfl trivial dX0_addAncestorsOf_35)
theorem inX0_addLine_0 : ∀ w ∈ u_ws RX0 TX0 10, w ∈ wsX0_addLine := by decide +kernel
theorem lkX0_addLine_44 : Cond.fieldLink RX0 44 "MergeAtelier$Log" "count" "I" ∈ wsX0_addLine := by decide +kernel
theorem lkX0_addLine_9 : Cond.fieldLink RX0 9 "MergeAtelier$Log" "deed" "[I" ∈ wsX0_addLine := by decide +kernel
theorem lkX0_addLine_15 : Cond.fieldLink RX0 15 "MergeAtelier$Log" "first" "[I" ∈ wsX0_addLine := by decide +kernel
theorem lkX0_addLine_18 : Cond.fieldLink RX0 18 "MergeAtelier$Log" "second" "[I" ∈ wsX0_addLine := by decide +kernel
theorem lkX0_addLine_33 : Cond.fieldLink RX0 33 "MergeAtelier$Log" "lowAncestors" "[J" ∈ wsX0_addLine := by decide +kernel
theorem iniX0_addLine_X5 : Cond.initialized RX5 ∈ wsX0_addLine := by decide +kernel
theorem staX0_addLine_lowBit : Cond.static yX5_lowBit ∈ wsX0_addLine := by decide +kernel
theorem lkX0_addLine_37 : Cond.fieldLink RX0 37 "MergeAtelier$Log" "highAncestors" "[J" ∈ wsX0_addLine := by decide +kernel
theorem staX0_addLine_highBit : Cond.static yX5_highBit ∈ wsX0_addLine := by decide +kernel
set_option maxHeartbeats 4000000 in
set_option maxRecDepth 100000 in
theorem kX0_addLine_b (l : Launch) (g : vG) {la : Nat} {l1 l2 l3 l4 l5 l6 l7 l8 l9 : Nat} {deed item side picked qcnt An : Nat → Nat} {first second : Nat → Int} {cm : Nat} {d0 : Nat} (hcm : cm < 100) : mI l g yX0_addLine wsX0_addLine ({ frames := 1, cells := 0, slots := 0, locals := 22 }) [.ref (la), .int (iI ((d0 : Nat) : Int)), .int (iI (-1)), .int (iI (-1))] (wLog g la l1 l2 l3 l4 l5 l6 l7 l8 l9 deed first second item side picked qcnt An An cm ++ ([])) (fun _ : Unit => wLog g la l1 l2 l3 l4 l5 l6 l7 l8 l9 (updN deed (cm) (d0)) (updZ first (cm) (-1)) (updZ second (cm) (-1)) item side picked qcnt (updN An (cm) (2 ^ cm)) (updN An (cm) (2 ^ cm)) (cm + 1) ++ ([])) (fun v _ => v = iI ((cm : Nat) : Int)) 0 0 := by
  refine mI_of (cc := cX0_addLine) (maxL := 5) (ret := (some .int)) (own := RX0) (by decide) rfl rfl (Nat.le_of_ble_eq_true rfl) ?_
  intro p e s m args below meth c A C hr hl hin
  refine v_aload_n C dX0_addLine_0 rfl 0 rfl ?_
  refine v_get C 0 (kf := 9) rfl rfl (by decide) inX0_addLine_0 lkX0_addLine_44 rfl rfl dX0_addLine_1 ?_
  refine v_istore C [(4, .int (iI ((cm : Nat) : Int))), (0, .ref (la)), (1, .int (iI ((d0 : Nat) : Int))), (2, .int (iI (-1))), (3, .int (iI (-1)))] dX0_addLine_4 (by decide) rfl ?_
  refine v_aload_n C dX0_addLine_6 rfl 1 rfl ?_
  refine v_get C 0 (kf := 0) rfl rfl (by decide) inX0_addLine_0 lkX0_addLine_9 rfl rfl dX0_addLine_7 ?_
  refine v_iload C dX0_addLine_10 0 rfl ?_
  refine v_iload_n C dX0_addLine_12 rfl 2 rfl ?_
  refine v_iastn C 1 (cm) (wLog g la l1 l2 l3 l4 l5 l6 l7 l8 l9 (updN deed (cm) (d0)) first second item side picked qcnt An An cm ++ ([])) rfl rfl (by omega) (by decide) dX0_addLine_13 rfl ?_
  refine v_aload_n C dX0_addLine_14 rfl 1 rfl ?_
  refine v_get C 0 (kf := 1) rfl rfl (by decide) inX0_addLine_0 lkX0_addLine_15 rfl rfl dX0_addLine_15 ?_
  refine v_iload C dX0_addLine_18 0 rfl ?_
  refine v_iload_n C dX0_addLine_20 rfl 3 rfl ?_
  refine v_iast C 2 (cm) (wLog g la l1 l2 l3 l4 l5 l6 l7 l8 l9 (updN deed (cm) (d0)) (updZ first (cm) (-1)) second item side picked qcnt An An cm ++ ([])) rfl rfl (by omega) (by decide) dX0_addLine_21 rfl ?_
  refine v_aload_n C dX0_addLine_22 rfl 1 rfl ?_
  refine v_get C 0 (kf := 2) rfl rfl (by decide) inX0_addLine_0 lkX0_addLine_18 rfl rfl dX0_addLine_23 ?_
  refine v_iload C dX0_addLine_26 0 rfl ?_
  refine v_iload_n C dX0_addLine_28 rfl 4 rfl ?_
  refine v_iast C 3 (cm) (wLog g la l1 l2 l3 l4 l5 l6 l7 l8 l9 (updN deed (cm) (d0)) (updZ first (cm) (-1)) (updZ second (cm) (-1)) item side picked qcnt An An cm ++ ([])) rfl rfl (by omega) (by decide) dX0_addLine_29 rfl ?_
  refine v_aload_n C dX0_addLine_30 rfl 1 rfl ?_
  refine v_get C 0 (kf := 7) rfl rfl (by decide) inX0_addLine_0 lkX0_addLine_33 rfl rfl dX0_addLine_31 ?_
  refine v_iload C dX0_addLine_34 0 rfl ?_
  refine v_iload C dX0_addLine_36 0 rfl ?_
  refine v_invNL C (As := [.int (iI ((cm : Nat) : Int))]) (kX5_lowBit l g (n := cm) (by omega)) ⟨va_cnB 1 C.2.2.2.2.1 gX0_addLine_X5_lowBit_n48 rfl rfl rfl C.2.2.2.2.2.1.2.1 (C.2.2.2.2.1 _ iniX0_addLine_X5) (by decide +kernel) ⟨Nat.le_of_ble_eq_true rfl, Nat.le_of_ble_eq_true rfl⟩, C.2.2.2.2.1 _ staX0_addLine_lowBit, trivial⟩ [wLog g la l1 l2 l3 l4 l5 l6 l7 l8 l9 (updN deed (cm) (d0)) (updZ first (cm) (-1)) (updZ second (cm) (-1)) item side picked qcnt An An cm] [] [0] [.int (iI ((cm : Nat) : Int)), .ref (l8)] (fun _ => [wLog g la l1 l2 l3 l4 l5 l6 l7 l8 l9 (updN deed (cm) (d0)) (updZ first (cm) (-1)) (updZ second (cm) (-1)) item side picked qcnt An An cm]) (fun _ => wLog g la l1 l2 l3 l4 l5 l6 l7 l8 l9 (updN deed (cm) (d0)) (updZ first (cm) (-1)) (updZ second (cm) (-1)) item side picked qcnt An An cm ++ ([])) rfl rfl rfl (fun _ => rfl) (fun _ => rfl) (fun _ => rfl) (fun _ => rfl) rfl rfl (Nat.le_of_ble_eq_true rfl) dX0_addLine_38 ⟨by decide, by decide⟩ (fun r_2 _ h_1 => ?_)
  subst h_1
  refine v_last C 8 (cm) (xl (updN An (cm) (2 ^ cm))) (wLog g la l1 l2 l3 l4 l5 l6 l7 l8 l9 (updN deed (cm) (d0)) (updZ first (cm) (-1)) (updZ second (cm) (-1)) item side picked qcnt (updN An (cm) (2 ^ cm)) An cm ++ ([])) rfl rfl (by omega) (by decide) dX0_addLine_41 (xl_upd _ _ _) rfl ?_
  refine v_aload_n C dX0_addLine_42 rfl 1 rfl ?_
  refine v_get C 0 (kf := 8) rfl rfl (by decide) inX0_addLine_0 lkX0_addLine_37 rfl rfl dX0_addLine_43 ?_
  refine v_iload C dX0_addLine_46 0 rfl ?_
  refine v_iload C dX0_addLine_48 0 rfl ?_
  refine v_invNL C (As := [.int (iI ((cm : Nat) : Int))]) (kX5_highBit l g (n := cm) (by omega)) ⟨va_cnB 1 C.2.2.2.2.1 gX0_addLine_X5_highBit_n52 rfl rfl rfl C.2.2.2.2.2.1.2.2.1 (C.2.2.2.2.1 _ iniX0_addLine_X5) (by decide +kernel) ⟨Nat.le_of_ble_eq_true rfl, Nat.le_of_ble_eq_true rfl⟩, C.2.2.2.2.1 _ staX0_addLine_highBit, trivial⟩ [wLog g la l1 l2 l3 l4 l5 l6 l7 l8 l9 (updN deed (cm) (d0)) (updZ first (cm) (-1)) (updZ second (cm) (-1)) item side picked qcnt (updN An (cm) (2 ^ cm)) An cm] [] [0] [.int (iI ((cm : Nat) : Int)), .ref (l9)] (fun _ => [wLog g la l1 l2 l3 l4 l5 l6 l7 l8 l9 (updN deed (cm) (d0)) (updZ first (cm) (-1)) (updZ second (cm) (-1)) item side picked qcnt (updN An (cm) (2 ^ cm)) An cm]) (fun _ => wLog g la l1 l2 l3 l4 l5 l6 l7 l8 l9 (updN deed (cm) (d0)) (updZ first (cm) (-1)) (updZ second (cm) (-1)) item side picked qcnt (updN An (cm) (2 ^ cm)) An cm ++ ([])) rfl rfl rfl (fun _ => rfl) (fun _ => rfl) (fun _ => rfl) (fun _ => rfl) rfl rfl (Nat.le_of_ble_eq_true rfl) dX0_addLine_50 ⟨by decide, by decide⟩ (fun r_4 _ h_3 => ?_)
  subst h_3
  refine v_last C 9 (cm) (xh (updN An (cm) (2 ^ cm))) (wLog g la l1 l2 l3 l4 l5 l6 l7 l8 l9 (updN deed (cm) (d0)) (updZ first (cm) (-1)) (updZ second (cm) (-1)) item side picked qcnt (updN An (cm) (2 ^ cm)) (updN An (cm) (2 ^ cm)) cm ++ ([])) rfl rfl (by omega) (by decide) dX0_addLine_53 (xh_upd _ _ _) rfl ?_
  refine v_aload_n C dX0_addLine_54 rfl 1 rfl ?_
  refine v_iload C dX0_addLine_55 0 rfl ?_
  refine v_iload_n C dX0_addLine_57 rfl 3 rfl ?_
  refine v_invVV C (As := [.int (iI ((cm : Nat) : Int)), .int (iI (-1))]) (q0 := 0) (ci := 0) (kX0_addAncestorsOf_n l g (la := la) (l1 := l1) (l2 := l2) (l3 := l3) (l4 := l4) (l5 := l5) (l6 := l6) (l7 := l7) (l8 := l8) (l9 := l9) (deed := updN deed (cm) (d0)) (item := item) (side := side) (picked := picked) (qcnt := qcnt) (An := updN An (cm) (2 ^ cm)) (first := updZ first (cm) (-1)) (second := updZ second (cm) (-1)) (cm := cm) (c0 := cm) (by omega)) (cwV 2 C.2.2.2.2.1 gX0_addLine_X0_addAncestorsOf rfl rfl rfl (by decide +kernel) ⟨Nat.le_of_ble_eq_true rfl, Nat.le_of_ble_eq_true rfl⟩) [wLog g la l1 l2 l3 l4 l5 l6 l7 l8 l9 (updN deed (cm) (d0)) (updZ first (cm) (-1)) (updZ second (cm) (-1)) item side picked qcnt (updN An (cm) (2 ^ cm)) (updN An (cm) (2 ^ cm)) cm] [0] [] [] (fun _ => [wLog g la l1 l2 l3 l4 l5 l6 l7 l8 l9 (updN deed (cm) (d0)) (updZ first (cm) (-1)) (updZ second (cm) (-1)) item side picked qcnt (updN An (cm) (2 ^ cm)) (updN An (cm) (2 ^ cm)) cm]) (fun _ => wLog g la l1 l2 l3 l4 l5 l6 l7 l8 l9 (updN deed (cm) (d0)) (updZ first (cm) (-1)) (updZ second (cm) (-1)) item side picked qcnt (updN An (cm) (2 ^ cm)) (updN An (cm) (2 ^ cm)) cm ++ ([])) rfl rfl rfl (fun _ => rfl) (fun _ => rfl) (fun _ => rfl) (fun _ => rfl) rfl rfl rfl rfl rfl (Nat.le_of_ble_eq_true rfl) dX0_addLine_58 ⟨by decide, by decide⟩ (fun _ h_5 => ?_)
  refine v_aload_n C dX0_addLine_61 rfl 1 rfl ?_
  refine v_iload C dX0_addLine_62 0 rfl ?_
  refine v_iload_n C dX0_addLine_64 rfl 4 rfl ?_
  refine v_invVV C (As := [.int (iI ((cm : Nat) : Int)), .int (iI (-1))]) (q0 := 0) (ci := 0) (kX0_addAncestorsOf_n l g (la := la) (l1 := l1) (l2 := l2) (l3 := l3) (l4 := l4) (l5 := l5) (l6 := l6) (l7 := l7) (l8 := l8) (l9 := l9) (deed := updN deed (cm) (d0)) (item := item) (side := side) (picked := picked) (qcnt := qcnt) (An := updN An (cm) (2 ^ cm)) (first := updZ first (cm) (-1)) (second := updZ second (cm) (-1)) (cm := cm) (c0 := cm) (by omega)) (cwV 2 C.2.2.2.2.1 gX0_addLine_X0_addAncestorsOf rfl rfl rfl (by decide +kernel) ⟨Nat.le_of_ble_eq_true rfl, Nat.le_of_ble_eq_true rfl⟩) [wLog g la l1 l2 l3 l4 l5 l6 l7 l8 l9 (updN deed (cm) (d0)) (updZ first (cm) (-1)) (updZ second (cm) (-1)) item side picked qcnt (updN An (cm) (2 ^ cm)) (updN An (cm) (2 ^ cm)) cm] [0] [] [] (fun _ => [wLog g la l1 l2 l3 l4 l5 l6 l7 l8 l9 (updN deed (cm) (d0)) (updZ first (cm) (-1)) (updZ second (cm) (-1)) item side picked qcnt (updN An (cm) (2 ^ cm)) (updN An (cm) (2 ^ cm)) cm]) (fun _ => wLog g la l1 l2 l3 l4 l5 l6 l7 l8 l9 (updN deed (cm) (d0)) (updZ first (cm) (-1)) (updZ second (cm) (-1)) item side picked qcnt (updN An (cm) (2 ^ cm)) (updN An (cm) (2 ^ cm)) cm ++ ([])) rfl rfl rfl (fun _ => rfl) (fun _ => rfl) (fun _ => rfl) (fun _ => rfl) rfl rfl rfl rfl rfl (Nat.le_of_ble_eq_true rfl) dX0_addLine_65 ⟨by decide, by decide⟩ (fun _ h_7 => ?_)
  refine v_aload_n C dX0_addLine_68 rfl 1 rfl ?_
  refine v_dup C dX0_addLine_69 rfl ?_
  refine v_get C 0 (kf := 9) rfl rfl (by decide) inX0_addLine_0 lkX0_addLine_44 rfl rfl dX0_addLine_70 ?_
  refine v_iconst C (z := 1) dX0_addLine_73 ?_
  refine v_iadd C dX0_addLine_74 ?_
  rw [show (((cm : Nat) : Int)) + 1 = ((cm + 1 : Nat) : Int) from rfl]
  refine v_put C 0 (kf := 9) (wLog g la l1 l2 l3 l4 l5 l6 l7 l8 l9 (updN deed (cm) (d0)) (updZ first (cm) (-1)) (updZ second (cm) (-1)) item side picked qcnt (updN An (cm) (2 ^ cm)) (updN An (cm) (2 ^ cm)) (cm + 1) ++ ([])) rfl rfl (by decide) inX0_addLine_0 lkX0_addLine_44 rfl tyX0_ok nmX0 rfl rfl rfl (Nat.le_of_ble_eq_true rfl) dX0_addLine_75 rfl ?_
  refine v_iload C dX0_addLine_78 0 rfl ?_
  exact (v_iret C hr hl () (by decide) (by decide) rfl rfl dX0_addLine_80)
set_option maxHeartbeats 4000000 in
set_option maxRecDepth 100000 in
theorem kX0_addLine_c (l : Launch) (g : vG) {la : Nat} {l1 l2 l3 l4 l5 l6 l7 l8 l9 : Nat} {deed item side picked qcnt An : Nat → Nat} {first second : Nat → Int} {cm : Nat} {d0 : Nat} {k0 : Nat} (hcm : cm < 100) (hk0 : k0 < 100) : mI l g yX0_addLine wsX0_addLine ({ frames := 1, cells := 0, slots := 0, locals := 22 }) [.ref (la), .int (iI ((d0 : Nat) : Int)), .int (iI ((k0 : Nat) : Int)), .int (iI (-1))] (wLog g la l1 l2 l3 l4 l5 l6 l7 l8 l9 deed first second item side picked qcnt An An cm ++ ([])) (fun _ : Unit => wLog g la l1 l2 l3 l4 l5 l6 l7 l8 l9 (updN deed (cm) (d0)) (updZ first (cm) (((k0 : Nat) : Int))) (updZ second (cm) (-1)) item side picked qcnt (updN (updN An (cm) (2 ^ cm)) (cm) ((updN An (cm) (2 ^ cm)) (cm) ||| (updN An (cm) (2 ^ cm)) (k0))) (updN (updN An (cm) (2 ^ cm)) (cm) ((updN An (cm) (2 ^ cm)) (cm) ||| (updN An (cm) (2 ^ cm)) (k0))) (cm + 1) ++ ([])) (fun v _ => v = iI ((cm : Nat) : Int)) 0 0 := by
  refine mI_of (cc := cX0_addLine) (maxL := 5) (ret := (some .int)) (own := RX0) (by decide) rfl rfl (Nat.le_of_ble_eq_true rfl) ?_
  intro p e s m args below meth c A C hr hl hin
  refine v_aload_n C dX0_addLine_0 rfl 0 rfl ?_
  refine v_get C 0 (kf := 9) rfl rfl (by decide) inX0_addLine_0 lkX0_addLine_44 rfl rfl dX0_addLine_1 ?_
  refine v_istore C [(4, .int (iI ((cm : Nat) : Int))), (0, .ref (la)), (1, .int (iI ((d0 : Nat) : Int))), (2, .int (iI ((k0 : Nat) : Int))), (3, .int (iI (-1)))] dX0_addLine_4 (by decide) rfl ?_
  refine v_aload_n C dX0_addLine_6 rfl 1 rfl ?_
  refine v_get C 0 (kf := 0) rfl rfl (by decide) inX0_addLine_0 lkX0_addLine_9 rfl rfl dX0_addLine_7 ?_
  refine v_iload C dX0_addLine_10 0 rfl ?_
  refine v_iload_n C dX0_addLine_12 rfl 2 rfl ?_
  refine v_iastn C 1 (cm) (wLog g la l1 l2 l3 l4 l5 l6 l7 l8 l9 (updN deed (cm) (d0)) first second item side picked qcnt An An cm ++ ([])) rfl rfl (by omega) (by decide) dX0_addLine_13 rfl ?_
  refine v_aload_n C dX0_addLine_14 rfl 1 rfl ?_
  refine v_get C 0 (kf := 1) rfl rfl (by decide) inX0_addLine_0 lkX0_addLine_15 rfl rfl dX0_addLine_15 ?_
  refine v_iload C dX0_addLine_18 0 rfl ?_
  refine v_iload_n C dX0_addLine_20 rfl 3 rfl ?_
  refine v_iast C 2 (cm) (wLog g la l1 l2 l3 l4 l5 l6 l7 l8 l9 (updN deed (cm) (d0)) (updZ first (cm) (((k0 : Nat) : Int))) second item side picked qcnt An An cm ++ ([])) rfl rfl (by omega) (by decide) dX0_addLine_21 rfl ?_
  refine v_aload_n C dX0_addLine_22 rfl 1 rfl ?_
  refine v_get C 0 (kf := 2) rfl rfl (by decide) inX0_addLine_0 lkX0_addLine_18 rfl rfl dX0_addLine_23 ?_
  refine v_iload C dX0_addLine_26 0 rfl ?_
  refine v_iload_n C dX0_addLine_28 rfl 4 rfl ?_
  refine v_iast C 3 (cm) (wLog g la l1 l2 l3 l4 l5 l6 l7 l8 l9 (updN deed (cm) (d0)) (updZ first (cm) (((k0 : Nat) : Int))) (updZ second (cm) (-1)) item side picked qcnt An An cm ++ ([])) rfl rfl (by omega) (by decide) dX0_addLine_29 rfl ?_
  refine v_aload_n C dX0_addLine_30 rfl 1 rfl ?_
  refine v_get C 0 (kf := 7) rfl rfl (by decide) inX0_addLine_0 lkX0_addLine_33 rfl rfl dX0_addLine_31 ?_
  refine v_iload C dX0_addLine_34 0 rfl ?_
  refine v_iload C dX0_addLine_36 0 rfl ?_
  refine v_invNL C (As := [.int (iI ((cm : Nat) : Int))]) (kX5_lowBit l g (n := cm) (by omega)) ⟨va_cnB 1 C.2.2.2.2.1 gX0_addLine_X5_lowBit_n48 rfl rfl rfl C.2.2.2.2.2.1.2.1 (C.2.2.2.2.1 _ iniX0_addLine_X5) (by decide +kernel) ⟨Nat.le_of_ble_eq_true rfl, Nat.le_of_ble_eq_true rfl⟩, C.2.2.2.2.1 _ staX0_addLine_lowBit, trivial⟩ [wLog g la l1 l2 l3 l4 l5 l6 l7 l8 l9 (updN deed (cm) (d0)) (updZ first (cm) (((k0 : Nat) : Int))) (updZ second (cm) (-1)) item side picked qcnt An An cm] [] [0] [.int (iI ((cm : Nat) : Int)), .ref (l8)] (fun _ => [wLog g la l1 l2 l3 l4 l5 l6 l7 l8 l9 (updN deed (cm) (d0)) (updZ first (cm) (((k0 : Nat) : Int))) (updZ second (cm) (-1)) item side picked qcnt An An cm]) (fun _ => wLog g la l1 l2 l3 l4 l5 l6 l7 l8 l9 (updN deed (cm) (d0)) (updZ first (cm) (((k0 : Nat) : Int))) (updZ second (cm) (-1)) item side picked qcnt An An cm ++ ([])) rfl rfl rfl (fun _ => rfl) (fun _ => rfl) (fun _ => rfl) (fun _ => rfl) rfl rfl (Nat.le_of_ble_eq_true rfl) dX0_addLine_38 ⟨by decide, by decide⟩ (fun r_2 _ h_1 => ?_)
  subst h_1
  refine v_last C 8 (cm) (xl (updN An (cm) (2 ^ cm))) (wLog g la l1 l2 l3 l4 l5 l6 l7 l8 l9 (updN deed (cm) (d0)) (updZ first (cm) (((k0 : Nat) : Int))) (updZ second (cm) (-1)) item side picked qcnt (updN An (cm) (2 ^ cm)) An cm ++ ([])) rfl rfl (by omega) (by decide) dX0_addLine_41 (xl_upd _ _ _) rfl ?_
  refine v_aload_n C dX0_addLine_42 rfl 1 rfl ?_
  refine v_get C 0 (kf := 8) rfl rfl (by decide) inX0_addLine_0 lkX0_addLine_37 rfl rfl dX0_addLine_43 ?_
  refine v_iload C dX0_addLine_46 0 rfl ?_
  refine v_iload C dX0_addLine_48 0 rfl ?_
  refine v_invNL C (As := [.int (iI ((cm : Nat) : Int))]) (kX5_highBit l g (n := cm) (by omega)) ⟨va_cnB 1 C.2.2.2.2.1 gX0_addLine_X5_highBit_n52 rfl rfl rfl C.2.2.2.2.2.1.2.2.1 (C.2.2.2.2.1 _ iniX0_addLine_X5) (by decide +kernel) ⟨Nat.le_of_ble_eq_true rfl, Nat.le_of_ble_eq_true rfl⟩, C.2.2.2.2.1 _ staX0_addLine_highBit, trivial⟩ [wLog g la l1 l2 l3 l4 l5 l6 l7 l8 l9 (updN deed (cm) (d0)) (updZ first (cm) (((k0 : Nat) : Int))) (updZ second (cm) (-1)) item side picked qcnt (updN An (cm) (2 ^ cm)) An cm] [] [0] [.int (iI ((cm : Nat) : Int)), .ref (l9)] (fun _ => [wLog g la l1 l2 l3 l4 l5 l6 l7 l8 l9 (updN deed (cm) (d0)) (updZ first (cm) (((k0 : Nat) : Int))) (updZ second (cm) (-1)) item side picked qcnt (updN An (cm) (2 ^ cm)) An cm]) (fun _ => wLog g la l1 l2 l3 l4 l5 l6 l7 l8 l9 (updN deed (cm) (d0)) (updZ first (cm) (((k0 : Nat) : Int))) (updZ second (cm) (-1)) item side picked qcnt (updN An (cm) (2 ^ cm)) An cm ++ ([])) rfl rfl rfl (fun _ => rfl) (fun _ => rfl) (fun _ => rfl) (fun _ => rfl) rfl rfl (Nat.le_of_ble_eq_true rfl) dX0_addLine_50 ⟨by decide, by decide⟩ (fun r_4 _ h_3 => ?_)
  subst h_3
  refine v_last C 9 (cm) (xh (updN An (cm) (2 ^ cm))) (wLog g la l1 l2 l3 l4 l5 l6 l7 l8 l9 (updN deed (cm) (d0)) (updZ first (cm) (((k0 : Nat) : Int))) (updZ second (cm) (-1)) item side picked qcnt (updN An (cm) (2 ^ cm)) (updN An (cm) (2 ^ cm)) cm ++ ([])) rfl rfl (by omega) (by decide) dX0_addLine_53 (xh_upd _ _ _) rfl ?_
  refine v_aload_n C dX0_addLine_54 rfl 1 rfl ?_
  refine v_iload C dX0_addLine_55 0 rfl ?_
  refine v_iload_n C dX0_addLine_57 rfl 3 rfl ?_
  refine v_invVV C (As := [.int (iI ((cm : Nat) : Int)), .int (iI ((k0 : Nat) : Int))]) (q0 := 0) (ci := 0) (kX0_addAncestorsOf_s l g (la := la) (l1 := l1) (l2 := l2) (l3 := l3) (l4 := l4) (l5 := l5) (l6 := l6) (l7 := l7) (l8 := l8) (l9 := l9) (deed := updN deed (cm) (d0)) (item := item) (side := side) (picked := picked) (qcnt := qcnt) (An := updN An (cm) (2 ^ cm)) (first := updZ first (cm) (((k0 : Nat) : Int))) (second := updZ second (cm) (-1)) (cm := cm) (c0 := cm) (k0 := k0) (by omega) (by omega)) (cwV 2 C.2.2.2.2.1 gX0_addLine_X0_addAncestorsOf rfl rfl rfl (by decide +kernel) ⟨Nat.le_of_ble_eq_true rfl, Nat.le_of_ble_eq_true rfl⟩) [wLog g la l1 l2 l3 l4 l5 l6 l7 l8 l9 (updN deed (cm) (d0)) (updZ first (cm) (((k0 : Nat) : Int))) (updZ second (cm) (-1)) item side picked qcnt (updN An (cm) (2 ^ cm)) (updN An (cm) (2 ^ cm)) cm] [0] [] [] (fun _ => [wLog g la l1 l2 l3 l4 l5 l6 l7 l8 l9 (updN deed (cm) (d0)) (updZ first (cm) (((k0 : Nat) : Int))) (updZ second (cm) (-1)) item side picked qcnt (updN (updN An (cm) (2 ^ cm)) (cm) ((updN An (cm) (2 ^ cm)) (cm) ||| (updN An (cm) (2 ^ cm)) (k0))) (updN (updN An (cm) (2 ^ cm)) (cm) ((updN An (cm) (2 ^ cm)) (cm) ||| (updN An (cm) (2 ^ cm)) (k0))) cm]) (fun _ => wLog g la l1 l2 l3 l4 l5 l6 l7 l8 l9 (updN deed (cm) (d0)) (updZ first (cm) (((k0 : Nat) : Int))) (updZ second (cm) (-1)) item side picked qcnt (updN (updN An (cm) (2 ^ cm)) (cm) ((updN An (cm) (2 ^ cm)) (cm) ||| (updN An (cm) (2 ^ cm)) (k0))) (updN (updN An (cm) (2 ^ cm)) (cm) ((updN An (cm) (2 ^ cm)) (cm) ||| (updN An (cm) (2 ^ cm)) (k0))) cm ++ ([])) rfl rfl rfl (fun _ => rfl) (fun _ => rfl) (fun _ => rfl) (fun _ => rfl) rfl rfl rfl rfl rfl (Nat.le_of_ble_eq_true rfl) dX0_addLine_58 ⟨by decide, by decide⟩ (fun _ h_5 => ?_)
  refine v_aload_n C dX0_addLine_61 rfl 1 rfl ?_
  refine v_iload C dX0_addLine_62 0 rfl ?_
  refine v_iload_n C dX0_addLine_64 rfl 4 rfl ?_
  refine v_invVV C (As := [.int (iI ((cm : Nat) : Int)), .int (iI (-1))]) (q0 := 0) (ci := 0) (kX0_addAncestorsOf_n l g (la := la) (l1 := l1) (l2 := l2) (l3 := l3) (l4 := l4) (l5 := l5) (l6 := l6) (l7 := l7) (l8 := l8) (l9 := l9) (deed := updN deed (cm) (d0)) (item := item) (side := side) (picked := picked) (qcnt := qcnt) (An := updN (updN An (cm) (2 ^ cm)) (cm) ((updN An (cm) (2 ^ cm)) (cm) ||| (updN An (cm) (2 ^ cm)) (k0))) (first := updZ first (cm) (((k0 : Nat) : Int))) (second := updZ second (cm) (-1)) (cm := cm) (c0 := cm) (by omega)) (cwV 2 C.2.2.2.2.1 gX0_addLine_X0_addAncestorsOf rfl rfl rfl (by decide +kernel) ⟨Nat.le_of_ble_eq_true rfl, Nat.le_of_ble_eq_true rfl⟩) [wLog g la l1 l2 l3 l4 l5 l6 l7 l8 l9 (updN deed (cm) (d0)) (updZ first (cm) (((k0 : Nat) : Int))) (updZ second (cm) (-1)) item side picked qcnt (updN (updN An (cm) (2 ^ cm)) (cm) ((updN An (cm) (2 ^ cm)) (cm) ||| (updN An (cm) (2 ^ cm)) (k0))) (updN (updN An (cm) (2 ^ cm)) (cm) ((updN An (cm) (2 ^ cm)) (cm) ||| (updN An (cm) (2 ^ cm)) (k0))) cm] [0] [] [] (fun _ => [wLog g la l1 l2 l3 l4 l5 l6 l7 l8 l9 (updN deed (cm) (d0)) (updZ first (cm) (((k0 : Nat) : Int))) (updZ second (cm) (-1)) item side picked qcnt (updN (updN An (cm) (2 ^ cm)) (cm) ((updN An (cm) (2 ^ cm)) (cm) ||| (updN An (cm) (2 ^ cm)) (k0))) (updN (updN An (cm) (2 ^ cm)) (cm) ((updN An (cm) (2 ^ cm)) (cm) ||| (updN An (cm) (2 ^ cm)) (k0))) cm]) (fun _ => wLog g la l1 l2 l3 l4 l5 l6 l7 l8 l9 (updN deed (cm) (d0)) (updZ first (cm) (((k0 : Nat) : Int))) (updZ second (cm) (-1)) item side picked qcnt (updN (updN An (cm) (2 ^ cm)) (cm) ((updN An (cm) (2 ^ cm)) (cm) ||| (updN An (cm) (2 ^ cm)) (k0))) (updN (updN An (cm) (2 ^ cm)) (cm) ((updN An (cm) (2 ^ cm)) (cm) ||| (updN An (cm) (2 ^ cm)) (k0))) cm ++ ([])) rfl rfl rfl (fun _ => rfl) (fun _ => rfl) (fun _ => rfl) (fun _ => rfl) rfl rfl rfl rfl rfl (Nat.le_of_ble_eq_true rfl) dX0_addLine_65 ⟨by decide, by decide⟩ (fun _ h_7 => ?_)
  refine v_aload_n C dX0_addLine_68 rfl 1 rfl ?_
  refine v_dup C dX0_addLine_69 rfl ?_
  refine v_get C 0 (kf := 9) rfl rfl (by decide) inX0_addLine_0 lkX0_addLine_44 rfl rfl dX0_addLine_70 ?_
  refine v_iconst C (z := 1) dX0_addLine_73 ?_
  refine v_iadd C dX0_addLine_74 ?_
  rw [show (((cm : Nat) : Int)) + 1 = ((cm + 1 : Nat) : Int) from rfl]
  refine v_put C 0 (kf := 9) (wLog g la l1 l2 l3 l4 l5 l6 l7 l8 l9 (updN deed (cm) (d0)) (updZ first (cm) (((k0 : Nat) : Int))) (updZ second (cm) (-1)) item side picked qcnt (updN (updN An (cm) (2 ^ cm)) (cm) ((updN An (cm) (2 ^ cm)) (cm) ||| (updN An (cm) (2 ^ cm)) (k0))) (updN (updN An (cm) (2 ^ cm)) (cm) ((updN An (cm) (2 ^ cm)) (cm) ||| (updN An (cm) (2 ^ cm)) (k0))) (cm + 1) ++ ([])) rfl rfl (by decide) inX0_addLine_0 lkX0_addLine_44 rfl tyX0_ok nmX0 rfl rfl rfl (Nat.le_of_ble_eq_true rfl) dX0_addLine_75 rfl ?_
  refine v_iload C dX0_addLine_78 0 rfl ?_
  exact (v_iret C hr hl () (by decide) (by decide) rfl rfl dX0_addLine_80)
set_option maxHeartbeats 4000000 in
set_option maxRecDepth 100000 in
theorem kX0_addLine_m (l : Launch) (g : vG) {la : Nat} {l1 l2 l3 l4 l5 l6 l7 l8 l9 : Nat} {deed item side picked qcnt An : Nat → Nat} {first second : Nat → Int} {cm : Nat} {d0 : Nat} {k0 k1 : Nat} (hcm : cm < 100) (hk0 : k0 < 100) (hk1 : k1 < 100) : mI l g yX0_addLine wsX0_addLine ({ frames := 1, cells := 0, slots := 0, locals := 22 }) [.ref (la), .int (iI ((d0 : Nat) : Int)), .int (iI ((k0 : Nat) : Int)), .int (iI ((k1 : Nat) : Int))] (wLog g la l1 l2 l3 l4 l5 l6 l7 l8 l9 deed first second item side picked qcnt An An cm ++ ([])) (fun _ : Unit => wLog g la l1 l2 l3 l4 l5 l6 l7 l8 l9 (updN deed (cm) (d0)) (updZ first (cm) (((k0 : Nat) : Int))) (updZ second (cm) (((k1 : Nat) : Int))) item side picked qcnt (updN (updN (updN An (cm) (2 ^ cm)) (cm) ((updN An (cm) (2 ^ cm)) (cm) ||| (updN An (cm) (2 ^ cm)) (k0))) (cm) ((updN (updN An (cm) (2 ^ cm)) (cm) ((updN An (cm) (2 ^ cm)) (cm) ||| (updN An (cm) (2 ^ cm)) (k0))) (cm) ||| (updN (updN An (cm) (2 ^ cm)) (cm) ((updN An (cm) (2 ^ cm)) (cm) ||| (updN An (cm) (2 ^ cm)) (k0))) (k1))) (updN (updN (updN An (cm) (2 ^ cm)) (cm) ((updN An (cm) (2 ^ cm)) (cm) ||| (updN An (cm) (2 ^ cm)) (k0))) (cm) ((updN (updN An (cm) (2 ^ cm)) (cm) ((updN An (cm) (2 ^ cm)) (cm) ||| (updN An (cm) (2 ^ cm)) (k0))) (cm) ||| (updN (updN An (cm) (2 ^ cm)) (cm) ((updN An (cm) (2 ^ cm)) (cm) ||| (updN An (cm) (2 ^ cm)) (k0))) (k1))) (cm + 1) ++ ([])) (fun v _ => v = iI ((cm : Nat) : Int)) 0 0 := by
  refine mI_of (cc := cX0_addLine) (maxL := 5) (ret := (some .int)) (own := RX0) (by decide) rfl rfl (Nat.le_of_ble_eq_true rfl) ?_
  intro p e s m args below meth c A C hr hl hin
  refine v_aload_n C dX0_addLine_0 rfl 0 rfl ?_
  refine v_get C 0 (kf := 9) rfl rfl (by decide) inX0_addLine_0 lkX0_addLine_44 rfl rfl dX0_addLine_1 ?_
  refine v_istore C [(4, .int (iI ((cm : Nat) : Int))), (0, .ref (la)), (1, .int (iI ((d0 : Nat) : Int))), (2, .int (iI ((k0 : Nat) : Int))), (3, .int (iI ((k1 : Nat) : Int)))] dX0_addLine_4 (by decide) rfl ?_
  refine v_aload_n C dX0_addLine_6 rfl 1 rfl ?_
  refine v_get C 0 (kf := 0) rfl rfl (by decide) inX0_addLine_0 lkX0_addLine_9 rfl rfl dX0_addLine_7 ?_
  refine v_iload C dX0_addLine_10 0 rfl ?_
  refine v_iload_n C dX0_addLine_12 rfl 2 rfl ?_
  refine v_iastn C 1 (cm) (wLog g la l1 l2 l3 l4 l5 l6 l7 l8 l9 (updN deed (cm) (d0)) first second item side picked qcnt An An cm ++ ([])) rfl rfl (by omega) (by decide) dX0_addLine_13 rfl ?_
  refine v_aload_n C dX0_addLine_14 rfl 1 rfl ?_
  refine v_get C 0 (kf := 1) rfl rfl (by decide) inX0_addLine_0 lkX0_addLine_15 rfl rfl dX0_addLine_15 ?_
  refine v_iload C dX0_addLine_18 0 rfl ?_
  refine v_iload_n C dX0_addLine_20 rfl 3 rfl ?_
  refine v_iast C 2 (cm) (wLog g la l1 l2 l3 l4 l5 l6 l7 l8 l9 (updN deed (cm) (d0)) (updZ first (cm) (((k0 : Nat) : Int))) second item side picked qcnt An An cm ++ ([])) rfl rfl (by omega) (by decide) dX0_addLine_21 rfl ?_
  refine v_aload_n C dX0_addLine_22 rfl 1 rfl ?_
  refine v_get C 0 (kf := 2) rfl rfl (by decide) inX0_addLine_0 lkX0_addLine_18 rfl rfl dX0_addLine_23 ?_
  refine v_iload C dX0_addLine_26 0 rfl ?_
  refine v_iload_n C dX0_addLine_28 rfl 4 rfl ?_
  refine v_iast C 3 (cm) (wLog g la l1 l2 l3 l4 l5 l6 l7 l8 l9 (updN deed (cm) (d0)) (updZ first (cm) (((k0 : Nat) : Int))) (updZ second (cm) (((k1 : Nat) : Int))) item side picked qcnt An An cm ++ ([])) rfl rfl (by omega) (by decide) dX0_addLine_29 rfl ?_
  refine v_aload_n C dX0_addLine_30 rfl 1 rfl ?_
  refine v_get C 0 (kf := 7) rfl rfl (by decide) inX0_addLine_0 lkX0_addLine_33 rfl rfl dX0_addLine_31 ?_
  refine v_iload C dX0_addLine_34 0 rfl ?_
  refine v_iload C dX0_addLine_36 0 rfl ?_
  refine v_invNL C (As := [.int (iI ((cm : Nat) : Int))]) (kX5_lowBit l g (n := cm) (by omega)) ⟨va_cnB 1 C.2.2.2.2.1 gX0_addLine_X5_lowBit_n48 rfl rfl rfl C.2.2.2.2.2.1.2.1 (C.2.2.2.2.1 _ iniX0_addLine_X5) (by decide +kernel) ⟨Nat.le_of_ble_eq_true rfl, Nat.le_of_ble_eq_true rfl⟩, C.2.2.2.2.1 _ staX0_addLine_lowBit, trivial⟩ [wLog g la l1 l2 l3 l4 l5 l6 l7 l8 l9 (updN deed (cm) (d0)) (updZ first (cm) (((k0 : Nat) : Int))) (updZ second (cm) (((k1 : Nat) : Int))) item side picked qcnt An An cm] [] [0] [.int (iI ((cm : Nat) : Int)), .ref (l8)] (fun _ => [wLog g la l1 l2 l3 l4 l5 l6 l7 l8 l9 (updN deed (cm) (d0)) (updZ first (cm) (((k0 : Nat) : Int))) (updZ second (cm) (((k1 : Nat) : Int))) item side picked qcnt An An cm]) (fun _ => wLog g la l1 l2 l3 l4 l5 l6 l7 l8 l9 (updN deed (cm) (d0)) (updZ first (cm) (((k0 : Nat) : Int))) (updZ second (cm) (((k1 : Nat) : Int))) item side picked qcnt An An cm ++ ([])) rfl rfl rfl (fun _ => rfl) (fun _ => rfl) (fun _ => rfl) (fun _ => rfl) rfl rfl (Nat.le_of_ble_eq_true rfl) dX0_addLine_38 ⟨by decide, by decide⟩ (fun r_2 _ h_1 => ?_)
  subst h_1
  refine v_last C 8 (cm) (xl (updN An (cm) (2 ^ cm))) (wLog g la l1 l2 l3 l4 l5 l6 l7 l8 l9 (updN deed (cm) (d0)) (updZ first (cm) (((k0 : Nat) : Int))) (updZ second (cm) (((k1 : Nat) : Int))) item side picked qcnt (updN An (cm) (2 ^ cm)) An cm ++ ([])) rfl rfl (by omega) (by decide) dX0_addLine_41 (xl_upd _ _ _) rfl ?_
  refine v_aload_n C dX0_addLine_42 rfl 1 rfl ?_
  refine v_get C 0 (kf := 8) rfl rfl (by decide) inX0_addLine_0 lkX0_addLine_37 rfl rfl dX0_addLine_43 ?_
  refine v_iload C dX0_addLine_46 0 rfl ?_
  refine v_iload C dX0_addLine_48 0 rfl ?_
  refine v_invNL C (As := [.int (iI ((cm : Nat) : Int))]) (kX5_highBit l g (n := cm) (by omega)) ⟨va_cnB 1 C.2.2.2.2.1 gX0_addLine_X5_highBit_n52 rfl rfl rfl C.2.2.2.2.2.1.2.2.1 (C.2.2.2.2.1 _ iniX0_addLine_X5) (by decide +kernel) ⟨Nat.le_of_ble_eq_true rfl, Nat.le_of_ble_eq_true rfl⟩, C.2.2.2.2.1 _ staX0_addLine_highBit, trivial⟩ [wLog g la l1 l2 l3 l4 l5 l6 l7 l8 l9 (updN deed (cm) (d0)) (updZ first (cm) (((k0 : Nat) : Int))) (updZ second (cm) (((k1 : Nat) : Int))) item side picked qcnt (updN An (cm) (2 ^ cm)) An cm] [] [0] [.int (iI ((cm : Nat) : Int)), .ref (l9)] (fun _ => [wLog g la l1 l2 l3 l4 l5 l6 l7 l8 l9 (updN deed (cm) (d0)) (updZ first (cm) (((k0 : Nat) : Int))) (updZ second (cm) (((k1 : Nat) : Int))) item side picked qcnt (updN An (cm) (2 ^ cm)) An cm]) (fun _ => wLog g la l1 l2 l3 l4 l5 l6 l7 l8 l9 (updN deed (cm) (d0)) (updZ first (cm) (((k0 : Nat) : Int))) (updZ second (cm) (((k1 : Nat) : Int))) item side picked qcnt (updN An (cm) (2 ^ cm)) An cm ++ ([])) rfl rfl rfl (fun _ => rfl) (fun _ => rfl) (fun _ => rfl) (fun _ => rfl) rfl rfl (Nat.le_of_ble_eq_true rfl) dX0_addLine_50 ⟨by decide, by decide⟩ (fun r_4 _ h_3 => ?_)
  subst h_3
  refine v_last C 9 (cm) (xh (updN An (cm) (2 ^ cm))) (wLog g la l1 l2 l3 l4 l5 l6 l7 l8 l9 (updN deed (cm) (d0)) (updZ first (cm) (((k0 : Nat) : Int))) (updZ second (cm) (((k1 : Nat) : Int))) item side picked qcnt (updN An (cm) (2 ^ cm)) (updN An (cm) (2 ^ cm)) cm ++ ([])) rfl rfl (by omega) (by decide) dX0_addLine_53 (xh_upd _ _ _) rfl ?_
  refine v_aload_n C dX0_addLine_54 rfl 1 rfl ?_
  refine v_iload C dX0_addLine_55 0 rfl ?_
  refine v_iload_n C dX0_addLine_57 rfl 3 rfl ?_
  refine v_invVV C (As := [.int (iI ((cm : Nat) : Int)), .int (iI ((k0 : Nat) : Int))]) (q0 := 0) (ci := 0) (kX0_addAncestorsOf_s l g (la := la) (l1 := l1) (l2 := l2) (l3 := l3) (l4 := l4) (l5 := l5) (l6 := l6) (l7 := l7) (l8 := l8) (l9 := l9) (deed := updN deed (cm) (d0)) (item := item) (side := side) (picked := picked) (qcnt := qcnt) (An := updN An (cm) (2 ^ cm)) (first := updZ first (cm) (((k0 : Nat) : Int))) (second := updZ second (cm) (((k1 : Nat) : Int))) (cm := cm) (c0 := cm) (k0 := k0) (by omega) (by omega)) (cwV 2 C.2.2.2.2.1 gX0_addLine_X0_addAncestorsOf rfl rfl rfl (by decide +kernel) ⟨Nat.le_of_ble_eq_true rfl, Nat.le_of_ble_eq_true rfl⟩) [wLog g la l1 l2 l3 l4 l5 l6 l7 l8 l9 (updN deed (cm) (d0)) (updZ first (cm) (((k0 : Nat) : Int))) (updZ second (cm) (((k1 : Nat) : Int))) item side picked qcnt (updN An (cm) (2 ^ cm)) (updN An (cm) (2 ^ cm)) cm] [0] [] [] (fun _ => [wLog g la l1 l2 l3 l4 l5 l6 l7 l8 l9 (updN deed (cm) (d0)) (updZ first (cm) (((k0 : Nat) : Int))) (updZ second (cm) (((k1 : Nat) : Int))) item side picked qcnt (updN (updN An (cm) (2 ^ cm)) (cm) ((updN An (cm) (2 ^ cm)) (cm) ||| (updN An (cm) (2 ^ cm)) (k0))) (updN (updN An (cm) (2 ^ cm)) (cm) ((updN An (cm) (2 ^ cm)) (cm) ||| (updN An (cm) (2 ^ cm)) (k0))) cm]) (fun _ => wLog g la l1 l2 l3 l4 l5 l6 l7 l8 l9 (updN deed (cm) (d0)) (updZ first (cm) (((k0 : Nat) : Int))) (updZ second (cm) (((k1 : Nat) : Int))) item side picked qcnt (updN (updN An (cm) (2 ^ cm)) (cm) ((updN An (cm) (2 ^ cm)) (cm) ||| (updN An (cm) (2 ^ cm)) (k0))) (updN (updN An (cm) (2 ^ cm)) (cm) ((updN An (cm) (2 ^ cm)) (cm) ||| (updN An (cm) (2 ^ cm)) (k0))) cm ++ ([])) rfl rfl rfl (fun _ => rfl) (fun _ => rfl) (fun _ => rfl) (fun _ => rfl) rfl rfl rfl rfl rfl (Nat.le_of_ble_eq_true rfl) dX0_addLine_58 ⟨by decide, by decide⟩ (fun _ h_5 => ?_)
  refine v_aload_n C dX0_addLine_61 rfl 1 rfl ?_
  refine v_iload C dX0_addLine_62 0 rfl ?_
  refine v_iload_n C dX0_addLine_64 rfl 4 rfl ?_
  refine v_invVV C (As := [.int (iI ((cm : Nat) : Int)), .int (iI ((k1 : Nat) : Int))]) (q0 := 0) (ci := 0) (kX0_addAncestorsOf_s l g (la := la) (l1 := l1) (l2 := l2) (l3 := l3) (l4 := l4) (l5 := l5) (l6 := l6) (l7 := l7) (l8 := l8) (l9 := l9) (deed := updN deed (cm) (d0)) (item := item) (side := side) (picked := picked) (qcnt := qcnt) (An := updN (updN An (cm) (2 ^ cm)) (cm) ((updN An (cm) (2 ^ cm)) (cm) ||| (updN An (cm) (2 ^ cm)) (k0))) (first := updZ first (cm) (((k0 : Nat) : Int))) (second := updZ second (cm) (((k1 : Nat) : Int))) (cm := cm) (c0 := cm) (k0 := k1) (by omega) (by omega)) (cwV 2 C.2.2.2.2.1 gX0_addLine_X0_addAncestorsOf rfl rfl rfl (by decide +kernel) ⟨Nat.le_of_ble_eq_true rfl, Nat.le_of_ble_eq_true rfl⟩) [wLog g la l1 l2 l3 l4 l5 l6 l7 l8 l9 (updN deed (cm) (d0)) (updZ first (cm) (((k0 : Nat) : Int))) (updZ second (cm) (((k1 : Nat) : Int))) item side picked qcnt (updN (updN An (cm) (2 ^ cm)) (cm) ((updN An (cm) (2 ^ cm)) (cm) ||| (updN An (cm) (2 ^ cm)) (k0))) (updN (updN An (cm) (2 ^ cm)) (cm) ((updN An (cm) (2 ^ cm)) (cm) ||| (updN An (cm) (2 ^ cm)) (k0))) cm] [0] [] [] (fun _ => [wLog g la l1 l2 l3 l4 l5 l6 l7 l8 l9 (updN deed (cm) (d0)) (updZ first (cm) (((k0 : Nat) : Int))) (updZ second (cm) (((k1 : Nat) : Int))) item side picked qcnt (updN (updN (updN An (cm) (2 ^ cm)) (cm) ((updN An (cm) (2 ^ cm)) (cm) ||| (updN An (cm) (2 ^ cm)) (k0))) (cm) ((updN (updN An (cm) (2 ^ cm)) (cm) ((updN An (cm) (2 ^ cm)) (cm) ||| (updN An (cm) (2 ^ cm)) (k0))) (cm) ||| (updN (updN An (cm) (2 ^ cm)) (cm) ((updN An (cm) (2 ^ cm)) (cm) ||| (updN An (cm) (2 ^ cm)) (k0))) (k1))) (updN (updN (updN An (cm) (2 ^ cm)) (cm) ((updN An (cm) (2 ^ cm)) (cm) ||| (updN An (cm) (2 ^ cm)) (k0))) (cm) ((updN (updN An (cm) (2 ^ cm)) (cm) ((updN An (cm) (2 ^ cm)) (cm) ||| (updN An (cm) (2 ^ cm)) (k0))) (cm) ||| (updN (updN An (cm) (2 ^ cm)) (cm) ((updN An (cm) (2 ^ cm)) (cm) ||| (updN An (cm) (2 ^ cm)) (k0))) (k1))) cm]) (fun _ => wLog g la l1 l2 l3 l4 l5 l6 l7 l8 l9 (updN deed (cm) (d0)) (updZ first (cm) (((k0 : Nat) : Int))) (updZ second (cm) (((k1 : Nat) : Int))) item side picked qcnt (updN (updN (updN An (cm) (2 ^ cm)) (cm) ((updN An (cm) (2 ^ cm)) (cm) ||| (updN An (cm) (2 ^ cm)) (k0))) (cm) ((updN (updN An (cm) (2 ^ cm)) (cm) ((updN An (cm) (2 ^ cm)) (cm) ||| (updN An (cm) (2 ^ cm)) (k0))) (cm) ||| (updN (updN An (cm) (2 ^ cm)) (cm) ((updN An (cm) (2 ^ cm)) (cm) ||| (updN An (cm) (2 ^ cm)) (k0))) (k1))) (updN (updN (updN An (cm) (2 ^ cm)) (cm) ((updN An (cm) (2 ^ cm)) (cm) ||| (updN An (cm) (2 ^ cm)) (k0))) (cm) ((updN (updN An (cm) (2 ^ cm)) (cm) ((updN An (cm) (2 ^ cm)) (cm) ||| (updN An (cm) (2 ^ cm)) (k0))) (cm) ||| (updN (updN An (cm) (2 ^ cm)) (cm) ((updN An (cm) (2 ^ cm)) (cm) ||| (updN An (cm) (2 ^ cm)) (k0))) (k1))) cm ++ ([])) rfl rfl rfl (fun _ => rfl) (fun _ => rfl) (fun _ => rfl) (fun _ => rfl) rfl rfl rfl rfl rfl (Nat.le_of_ble_eq_true rfl) dX0_addLine_65 ⟨by decide, by decide⟩ (fun _ h_7 => ?_)
  refine v_aload_n C dX0_addLine_68 rfl 1 rfl ?_
  refine v_dup C dX0_addLine_69 rfl ?_
  refine v_get C 0 (kf := 9) rfl rfl (by decide) inX0_addLine_0 lkX0_addLine_44 rfl rfl dX0_addLine_70 ?_
  refine v_iconst C (z := 1) dX0_addLine_73 ?_
  refine v_iadd C dX0_addLine_74 ?_
  rw [show (((cm : Nat) : Int)) + 1 = ((cm + 1 : Nat) : Int) from rfl]
  refine v_put C 0 (kf := 9) (wLog g la l1 l2 l3 l4 l5 l6 l7 l8 l9 (updN deed (cm) (d0)) (updZ first (cm) (((k0 : Nat) : Int))) (updZ second (cm) (((k1 : Nat) : Int))) item side picked qcnt (updN (updN (updN An (cm) (2 ^ cm)) (cm) ((updN An (cm) (2 ^ cm)) (cm) ||| (updN An (cm) (2 ^ cm)) (k0))) (cm) ((updN (updN An (cm) (2 ^ cm)) (cm) ((updN An (cm) (2 ^ cm)) (cm) ||| (updN An (cm) (2 ^ cm)) (k0))) (cm) ||| (updN (updN An (cm) (2 ^ cm)) (cm) ((updN An (cm) (2 ^ cm)) (cm) ||| (updN An (cm) (2 ^ cm)) (k0))) (k1))) (updN (updN (updN An (cm) (2 ^ cm)) (cm) ((updN An (cm) (2 ^ cm)) (cm) ||| (updN An (cm) (2 ^ cm)) (k0))) (cm) ((updN (updN An (cm) (2 ^ cm)) (cm) ((updN An (cm) (2 ^ cm)) (cm) ||| (updN An (cm) (2 ^ cm)) (k0))) (cm) ||| (updN (updN An (cm) (2 ^ cm)) (cm) ((updN An (cm) (2 ^ cm)) (cm) ||| (updN An (cm) (2 ^ cm)) (k0))) (k1))) (cm + 1) ++ ([])) rfl rfl (by decide) inX0_addLine_0 lkX0_addLine_44 rfl tyX0_ok nmX0 rfl rfl rfl (Nat.le_of_ble_eq_true rfl) dX0_addLine_75 rfl ?_
  refine v_iload C dX0_addLine_78 0 rfl ?_
  exact (v_iret C hr hl () (by decide) (by decide) rfl rfl dX0_addLine_80)
theorem inX0_addChange_0 : ∀ w ∈ u_ws RX0 TX0 10, w ∈ wsX0_addChange := by decide +kernel
theorem lkX0_addChange_21 : Cond.fieldLink RX0 21 "MergeAtelier$Log" "item" "[I" ∈ wsX0_addChange := by decide +kernel
theorem lkX0_addChange_24 : Cond.fieldLink RX0 24 "MergeAtelier$Log" "side" "[I" ∈ wsX0_addChange := by decide +kernel
set_option maxHeartbeats 4000000 in
set_option maxRecDepth 100000 in
theorem kX0_addChange (l : Launch) (g : vG) {la : Nat} {l1 l2 l3 l4 l5 l6 l7 l8 l9 : Nat} {deed item side picked qcnt An : Nat → Nat} {first second : Nat → Int} {cm : Nat} {k0 i0 sd : Nat} (hcm : cm < 100) (hk0 : k0 < 100) : mI l g yX0_addChange wsX0_addChange ({ frames := 2, cells := 0, slots := 0, locals := 46 }) [.ref (la), .int (iI ((k0 : Nat) : Int)), .int (iI ((i0 : Nat) : Int)), .int (iI ((sd : Nat) : Int))] (wLog g la l1 l2 l3 l4 l5 l6 l7 l8 l9 deed first second item side picked qcnt An An cm ++ ([])) (fun _ : Unit => wLog g la l1 l2 l3 l4 l5 l6 l7 l8 l9 (updN deed (cm) (1)) (updZ first (cm) (((k0 : Nat) : Int))) (updZ second (cm) (-1)) (updN item (cm) (i0)) (updN side (cm) (sd)) picked qcnt (updN (updN An (cm) (2 ^ cm)) (cm) ((updN An (cm) (2 ^ cm)) (cm) ||| (updN An (cm) (2 ^ cm)) (k0))) (updN (updN An (cm) (2 ^ cm)) (cm) ((updN An (cm) (2 ^ cm)) (cm) ||| (updN An (cm) (2 ^ cm)) (k0))) (cm + 1) ++ ([])) (fun v _ => v = iI ((cm : Nat) : Int)) 0 0 := by
  refine mI_of (cc := cX0_addChange) (maxL := 5) (ret := (some .int)) (own := RX0) (by decide) rfl rfl (Nat.le_of_ble_eq_true rfl) ?_
  intro p e s m args below meth c A C hr hl hin
  refine v_aload_n C dX0_addChange_0 rfl 0 rfl ?_
  refine v_iconst C (z := 1) dX0_addChange_1 ?_
  refine v_iload_n C dX0_addChange_2 rfl 1 rfl ?_
  refine v_iconst C (z := -1) dX0_addChange_3 ?_
  refine v_invVI C (As := [.int (iI (1)), .int (iI ((k0 : Nat) : Int)), .int (iI (-1))]) (q0 := 0) (ci := 0) (kX0_addLine_c l g (la := la) (l1 := l1) (l2 := l2) (l3 := l3) (l4 := l4) (l5 := l5) (l6 := l6) (l7 := l7) (l8 := l8) (l9 := l9) (deed := deed) (item := item) (side := side) (picked := picked) (qcnt := qcnt) (An := An) (first := first) (second := second) (cm := cm) (d0 := 1) (k0 := k0) (by omega) (by omega)) (cwV 3 C.2.2.2.2.1 gX0_addChange_X0_addLine rfl rfl rfl (by decide +kernel) ⟨Nat.le_of_ble_eq_true rfl, Nat.le_of_ble_eq_true rfl⟩) [wLog g la l1 l2 l3 l4 l5 l6 l7 l8 l9 deed first second item side picked qcnt An An cm] [0] [] [] (fun _ => [wLog g la l1 l2 l3 l4 l5 l6 l7 l8 l9 (updN deed (cm) (1)) (updZ first (cm) (((k0 : Nat) : Int))) (updZ second (cm) (-1)) item side picked qcnt (updN (updN An (cm) (2 ^ cm)) (cm) ((updN An (cm) (2 ^ cm)) (cm) ||| (updN An (cm) (2 ^ cm)) (k0))) (updN (updN An (cm) (2 ^ cm)) (cm) ((updN An (cm) (2 ^ cm)) (cm) ||| (updN An (cm) (2 ^ cm)) (k0))) (cm + 1)]) (fun _ => wLog g la l1 l2 l3 l4 l5 l6 l7 l8 l9 (updN deed (cm) (1)) (updZ first (cm) (((k0 : Nat) : Int))) (updZ second (cm) (-1)) item side picked qcnt (updN (updN An (cm) (2 ^ cm)) (cm) ((updN An (cm) (2 ^ cm)) (cm) ||| (updN An (cm) (2 ^ cm)) (k0))) (updN (updN An (cm) (2 ^ cm)) (cm) ((updN An (cm) (2 ^ cm)) (cm) ||| (updN An (cm) (2 ^ cm)) (k0))) (cm + 1) ++ ([])) rfl rfl rfl (fun _ => rfl) (fun _ => rfl) (fun _ => rfl) (fun _ => rfl) rfl rfl rfl rfl rfl (Nat.le_of_ble_eq_true rfl) dX0_addChange_4 ⟨by decide, by decide⟩ (fun r_2 _ h_1 => ?_)
  subst h_1
  refine v_istore C [(4, .int (iI ((cm : Nat) : Int))), (0, .ref (la)), (1, .int (iI ((k0 : Nat) : Int))), (2, .int (iI ((i0 : Nat) : Int))), (3, .int (iI ((sd : Nat) : Int)))] dX0_addChange_7 (by decide) rfl ?_
  refine v_aload_n C dX0_addChange_9 rfl 1 rfl ?_
  refine v_get C 0 (kf := 3) rfl rfl (by decide) inX0_addChange_0 lkX0_addChange_21 rfl rfl dX0_addChange_10 ?_
  refine v_iload C dX0_addChange_13 0 rfl ?_
  refine v_iload_n C dX0_addChange_15 rfl 3 rfl ?_
  refine v_iastn C 4 (cm) (wLog g la l1 l2 l3 l4 l5 l6 l7 l8 l9 (updN deed (cm) (1)) (updZ first (cm) (((k0 : Nat) : Int))) (updZ second (cm) (-1)) (updN item (cm) (i0)) side picked qcnt (updN (updN An (cm) (2 ^ cm)) (cm) ((updN An (cm) (2 ^ cm)) (cm) ||| (updN An (cm) (2 ^ cm)) (k0))) (updN (updN An (cm) (2 ^ cm)) (cm) ((updN An (cm) (2 ^ cm)) (cm) ||| (updN An (cm) (2 ^ cm)) (k0))) (cm + 1) ++ ([])) rfl rfl (by omega) (by decide) dX0_addChange_16 rfl ?_
  refine v_aload_n C dX0_addChange_17 rfl 1 rfl ?_
  refine v_get C 0 (kf := 4) rfl rfl (by decide) inX0_addChange_0 lkX0_addChange_24 rfl rfl dX0_addChange_18 ?_
  refine v_iload C dX0_addChange_21 0 rfl ?_
  refine v_iload_n C dX0_addChange_23 rfl 4 rfl ?_
  refine v_iastn C 5 (cm) (wLog g la l1 l2 l3 l4 l5 l6 l7 l8 l9 (updN deed (cm) (1)) (updZ first (cm) (((k0 : Nat) : Int))) (updZ second (cm) (-1)) (updN item (cm) (i0)) (updN side (cm) (sd)) picked qcnt (updN (updN An (cm) (2 ^ cm)) (cm) ((updN An (cm) (2 ^ cm)) (cm) ||| (updN An (cm) (2 ^ cm)) (k0))) (updN (updN An (cm) (2 ^ cm)) (cm) ((updN An (cm) (2 ^ cm)) (cm) ||| (updN An (cm) (2 ^ cm)) (k0))) (cm + 1) ++ ([])) rfl rfl (by omega) (by decide) dX0_addChange_24 rfl ?_
  refine v_iload C dX0_addChange_25 0 rfl ?_
  exact (v_iret C hr hl () (by decide) (by decide) rfl rfl dX0_addChange_27)
theorem inX0_addMerge_0 : ∀ w ∈ u_ws RX0 TX0 10, w ∈ wsX0_addMerge := by decide +kernel
theorem lkX0_addMerge_30 : Cond.fieldLink RX0 30 "MergeAtelier$Log" "quoteCount" "[I" ∈ wsX0_addMerge := by decide +kernel
set_option maxHeartbeats 4000000 in
set_option maxRecDepth 100000 in
theorem kX0_addMerge (l : Launch) (g : vG) {la : Nat} {l1 l2 l3 l4 l5 l6 l7 l8 l9 : Nat} {deed item side picked qcnt An : Nat → Nat} {first second : Nat → Int} {cm : Nat} {k0 k1 q0 : Nat} (hcm : cm < 100) (hk0 : k0 < 100) (hk1 : k1 < 100) : mI l g yX0_addMerge wsX0_addMerge ({ frames := 2, cells := 0, slots := 0, locals := 46 }) [.ref (la), .int (iI ((k0 : Nat) : Int)), .int (iI ((k1 : Nat) : Int)), .int (iI ((q0 : Nat) : Int))] (wLog g la l1 l2 l3 l4 l5 l6 l7 l8 l9 deed first second item side picked qcnt An An cm ++ ([])) (fun _ : Unit => wLog g la l1 l2 l3 l4 l5 l6 l7 l8 l9 (updN deed (cm) (2)) (updZ first (cm) (((k0 : Nat) : Int))) (updZ second (cm) (((k1 : Nat) : Int))) item side picked (updN qcnt (cm) (q0)) (updN (updN (updN An (cm) (2 ^ cm)) (cm) ((updN An (cm) (2 ^ cm)) (cm) ||| (updN An (cm) (2 ^ cm)) (k0))) (cm) ((updN (updN An (cm) (2 ^ cm)) (cm) ((updN An (cm) (2 ^ cm)) (cm) ||| (updN An (cm) (2 ^ cm)) (k0))) (cm) ||| (updN (updN An (cm) (2 ^ cm)) (cm) ((updN An (cm) (2 ^ cm)) (cm) ||| (updN An (cm) (2 ^ cm)) (k0))) (k1))) (updN (updN (updN An (cm) (2 ^ cm)) (cm) ((updN An (cm) (2 ^ cm)) (cm) ||| (updN An (cm) (2 ^ cm)) (k0))) (cm) ((updN (updN An (cm) (2 ^ cm)) (cm) ((updN An (cm) (2 ^ cm)) (cm) ||| (updN An (cm) (2 ^ cm)) (k0))) (cm) ||| (updN (updN An (cm) (2 ^ cm)) (cm) ((updN An (cm) (2 ^ cm)) (cm) ||| (updN An (cm) (2 ^ cm)) (k0))) (k1))) (cm + 1) ++ ([])) (fun v _ => v = iI ((cm : Nat) : Int)) 0 0 := by
  refine mI_of (cc := cX0_addMerge) (maxL := 5) (ret := (some .int)) (own := RX0) (by decide) rfl rfl (Nat.le_of_ble_eq_true rfl) ?_
  intro p e s m args below meth c A C hr hl hin
  refine v_aload_n C dX0_addMerge_0 rfl 0 rfl ?_
  refine v_iconst C (z := 2) dX0_addMerge_1 ?_
  refine v_iload_n C dX0_addMerge_2 rfl 1 rfl ?_
  refine v_iload_n C dX0_addMerge_3 rfl 2 rfl ?_
  refine v_invVI C (As := [.int (iI (2)), .int (iI ((k0 : Nat) : Int)), .int (iI ((k1 : Nat) : Int))]) (q0 := 0) (ci := 0) (kX0_addLine_m l g (la := la) (l1 := l1) (l2 := l2) (l3 := l3) (l4 := l4) (l5 := l5) (l6 := l6) (l7 := l7) (l8 := l8) (l9 := l9) (deed := deed) (item := item) (side := side) (picked := picked) (qcnt := qcnt) (An := An) (first := first) (second := second) (cm := cm) (d0 := 2) (k0 := k0) (k1 := k1) (by omega) (by omega) (by omega)) (cwV 3 C.2.2.2.2.1 gX0_addMerge_X0_addLine rfl rfl rfl (by decide +kernel) ⟨Nat.le_of_ble_eq_true rfl, Nat.le_of_ble_eq_true rfl⟩) [wLog g la l1 l2 l3 l4 l5 l6 l7 l8 l9 deed first second item side picked qcnt An An cm] [0] [] [] (fun _ => [wLog g la l1 l2 l3 l4 l5 l6 l7 l8 l9 (updN deed (cm) (2)) (updZ first (cm) (((k0 : Nat) : Int))) (updZ second (cm) (((k1 : Nat) : Int))) item side picked qcnt (updN (updN (updN An (cm) (2 ^ cm)) (cm) ((updN An (cm) (2 ^ cm)) (cm) ||| (updN An (cm) (2 ^ cm)) (k0))) (cm) ((updN (updN An (cm) (2 ^ cm)) (cm) ((updN An (cm) (2 ^ cm)) (cm) ||| (updN An (cm) (2 ^ cm)) (k0))) (cm) ||| (updN (updN An (cm) (2 ^ cm)) (cm) ((updN An (cm) (2 ^ cm)) (cm) ||| (updN An (cm) (2 ^ cm)) (k0))) (k1))) (updN (updN (updN An (cm) (2 ^ cm)) (cm) ((updN An (cm) (2 ^ cm)) (cm) ||| (updN An (cm) (2 ^ cm)) (k0))) (cm) ((updN (updN An (cm) (2 ^ cm)) (cm) ((updN An (cm) (2 ^ cm)) (cm) ||| (updN An (cm) (2 ^ cm)) (k0))) (cm) ||| (updN (updN An (cm) (2 ^ cm)) (cm) ((updN An (cm) (2 ^ cm)) (cm) ||| (updN An (cm) (2 ^ cm)) (k0))) (k1))) (cm + 1)]) (fun _ => wLog g la l1 l2 l3 l4 l5 l6 l7 l8 l9 (updN deed (cm) (2)) (updZ first (cm) (((k0 : Nat) : Int))) (updZ second (cm) (((k1 : Nat) : Int))) item side picked qcnt (updN (updN (updN An (cm) (2 ^ cm)) (cm) ((updN An (cm) (2 ^ cm)) (cm) ||| (updN An (cm) (2 ^ cm)) (k0))) (cm) ((updN (updN An (cm) (2 ^ cm)) (cm) ((updN An (cm) (2 ^ cm)) (cm) ||| (updN An (cm) (2 ^ cm)) (k0))) (cm) ||| (updN (updN An (cm) (2 ^ cm)) (cm) ((updN An (cm) (2 ^ cm)) (cm) ||| (updN An (cm) (2 ^ cm)) (k0))) (k1))) (updN (updN (updN An (cm) (2 ^ cm)) (cm) ((updN An (cm) (2 ^ cm)) (cm) ||| (updN An (cm) (2 ^ cm)) (k0))) (cm) ((updN (updN An (cm) (2 ^ cm)) (cm) ((updN An (cm) (2 ^ cm)) (cm) ||| (updN An (cm) (2 ^ cm)) (k0))) (cm) ||| (updN (updN An (cm) (2 ^ cm)) (cm) ((updN An (cm) (2 ^ cm)) (cm) ||| (updN An (cm) (2 ^ cm)) (k0))) (k1))) (cm + 1) ++ ([])) rfl rfl rfl (fun _ => rfl) (fun _ => rfl) (fun _ => rfl) (fun _ => rfl) rfl rfl rfl rfl rfl (Nat.le_of_ble_eq_true rfl) dX0_addMerge_4 ⟨by decide, by decide⟩ (fun r_2 _ h_1 => ?_)
  subst h_1
  refine v_istore C [(4, .int (iI ((cm : Nat) : Int))), (0, .ref (la)), (1, .int (iI ((k0 : Nat) : Int))), (2, .int (iI ((k1 : Nat) : Int))), (3, .int (iI ((q0 : Nat) : Int)))] dX0_addMerge_7 (by decide) rfl ?_
  refine v_aload_n C dX0_addMerge_9 rfl 1 rfl ?_
  refine v_get C 0 (kf := 6) rfl rfl (by decide) inX0_addMerge_0 lkX0_addMerge_30 rfl rfl dX0_addMerge_10 ?_
  refine v_iload C dX0_addMerge_13 0 rfl ?_
  refine v_iload_n C dX0_addMerge_15 rfl 4 rfl ?_
  refine v_iastn C 7 (cm) (wLog g la l1 l2 l3 l4 l5 l6 l7 l8 l9 (updN deed (cm) (2)) (updZ first (cm) (((k0 : Nat) : Int))) (updZ second (cm) (((k1 : Nat) : Int))) item side picked (updN qcnt (cm) (q0)) (updN (updN (updN An (cm) (2 ^ cm)) (cm) ((updN An (cm) (2 ^ cm)) (cm) ||| (updN An (cm) (2 ^ cm)) (k0))) (cm) ((updN (updN An (cm) (2 ^ cm)) (cm) ((updN An (cm) (2 ^ cm)) (cm) ||| (updN An (cm) (2 ^ cm)) (k0))) (cm) ||| (updN (updN An (cm) (2 ^ cm)) (cm) ((updN An (cm) (2 ^ cm)) (cm) ||| (updN An (cm) (2 ^ cm)) (k0))) (k1))) (updN (updN (updN An (cm) (2 ^ cm)) (cm) ((updN An (cm) (2 ^ cm)) (cm) ||| (updN An (cm) (2 ^ cm)) (k0))) (cm) ((updN (updN An (cm) (2 ^ cm)) (cm) ((updN An (cm) (2 ^ cm)) (cm) ||| (updN An (cm) (2 ^ cm)) (k0))) (cm) ||| (updN (updN An (cm) (2 ^ cm)) (cm) ((updN An (cm) (2 ^ cm)) (cm) ||| (updN An (cm) (2 ^ cm)) (k0))) (k1))) (cm + 1) ++ ([])) rfl rfl (by omega) (by decide) dX0_addMerge_16 rfl ?_
  refine v_iload C dX0_addMerge_17 0 rfl ?_
  exact (v_iret C hr hl () (by decide) (by decide) rfl rfl dX0_addMerge_19)
theorem inX0_addPick_0 : ∀ w ∈ u_ws RX0 TX0 10, w ∈ wsX0_addPick := by decide +kernel
theorem lkX0_addPick_27 : Cond.fieldLink RX0 27 "MergeAtelier$Log" "picked" "[I" ∈ wsX0_addPick := by decide +kernel
set_option maxHeartbeats 4000000 in
set_option maxRecDepth 100000 in
theorem kX0_addPick (l : Launch) (g : vG) {la : Nat} {l1 l2 l3 l4 l5 l6 l7 l8 l9 : Nat} {deed item side picked qcnt An : Nat → Nat} {first second : Nat → Int} {cm : Nat} {k0 k1 : Nat} (hcm : cm < 100) (hk0 : k0 < 100) : mI l g yX0_addPick wsX0_addPick ({ frames := 2, cells := 0, slots := 0, locals := 46 }) [.ref (la), .int (iI ((k0 : Nat) : Int)), .int (iI ((k1 : Nat) : Int))] (wLog g la l1 l2 l3 l4 l5 l6 l7 l8 l9 deed first second item side picked qcnt An An cm ++ ([])) (fun _ : Unit => wLog g la l1 l2 l3 l4 l5 l6 l7 l8 l9 (updN deed (cm) (3)) (updZ first (cm) (((k0 : Nat) : Int))) (updZ second (cm) (-1)) item side (updN picked (cm) (k1)) qcnt (updN (updN An (cm) (2 ^ cm)) (cm) ((updN An (cm) (2 ^ cm)) (cm) ||| (updN An (cm) (2 ^ cm)) (k0))) (updN (updN An (cm) (2 ^ cm)) (cm) ((updN An (cm) (2 ^ cm)) (cm) ||| (updN An (cm) (2 ^ cm)) (k0))) (cm + 1) ++ ([])) (fun v _ => v = iI ((cm : Nat) : Int)) 0 0 := by
  refine mI_of (cc := cX0_addPick) (maxL := 4) (ret := (some .int)) (own := RX0) (by decide) rfl rfl (Nat.le_of_ble_eq_true rfl) ?_
  intro p e s m args below meth c A C hr hl hin
  refine v_aload_n C dX0_addPick_0 rfl 0 rfl ?_
  refine v_iconst C (z := 3) dX0_addPick_1 ?_
  refine v_iload_n C dX0_addPick_2 rfl 1 rfl ?_
  refine v_iconst C (z := -1) dX0_addPick_3 ?_
  refine v_invVI C (As := [.int (iI (3)), .int (iI ((k0 : Nat) : Int)), .int (iI (-1))]) (q0 := 0) (ci := 0) (kX0_addLine_c l g (la := la) (l1 := l1) (l2 := l2) (l3 := l3) (l4 := l4) (l5 := l5) (l6 := l6) (l7 := l7) (l8 := l8) (l9 := l9) (deed := deed) (item := item) (side := side) (picked := picked) (qcnt := qcnt) (An := An) (first := first) (second := second) (cm := cm) (d0 := 3) (k0 := k0) (by omega) (by omega)) (cwV 3 C.2.2.2.2.1 gX0_addPick_X0_addLine rfl rfl rfl (by decide +kernel) ⟨Nat.le_of_ble_eq_true rfl, Nat.le_of_ble_eq_true rfl⟩) [wLog g la l1 l2 l3 l4 l5 l6 l7 l8 l9 deed first second item side picked qcnt An An cm] [0] [] [] (fun _ => [wLog g la l1 l2 l3 l4 l5 l6 l7 l8 l9 (updN deed (cm) (3)) (updZ first (cm) (((k0 : Nat) : Int))) (updZ second (cm) (-1)) item side picked qcnt (updN (updN An (cm) (2 ^ cm)) (cm) ((updN An (cm) (2 ^ cm)) (cm) ||| (updN An (cm) (2 ^ cm)) (k0))) (updN (updN An (cm) (2 ^ cm)) (cm) ((updN An (cm) (2 ^ cm)) (cm) ||| (updN An (cm) (2 ^ cm)) (k0))) (cm + 1)]) (fun _ => wLog g la l1 l2 l3 l4 l5 l6 l7 l8 l9 (updN deed (cm) (3)) (updZ first (cm) (((k0 : Nat) : Int))) (updZ second (cm) (-1)) item side picked qcnt (updN (updN An (cm) (2 ^ cm)) (cm) ((updN An (cm) (2 ^ cm)) (cm) ||| (updN An (cm) (2 ^ cm)) (k0))) (updN (updN An (cm) (2 ^ cm)) (cm) ((updN An (cm) (2 ^ cm)) (cm) ||| (updN An (cm) (2 ^ cm)) (k0))) (cm + 1) ++ ([])) rfl rfl rfl (fun _ => rfl) (fun _ => rfl) (fun _ => rfl) (fun _ => rfl) rfl rfl rfl rfl rfl (Nat.le_of_ble_eq_true rfl) dX0_addPick_4 ⟨by decide, by decide⟩ (fun r_2 _ h_1 => ?_)
  subst h_1
  refine v_istore_n C [(3, .int (iI ((cm : Nat) : Int))), (0, .ref (la)), (1, .int (iI ((k0 : Nat) : Int))), (2, .int (iI ((k1 : Nat) : Int)))] dX0_addPick_7 rfl (by decide) rfl ?_
  refine v_aload_n C dX0_addPick_8 rfl 1 rfl ?_
  refine v_get C 0 (kf := 5) rfl rfl (by decide) inX0_addPick_0 lkX0_addPick_27 rfl rfl dX0_addPick_9 ?_
  refine v_iload_n C dX0_addPick_12 rfl 0 rfl ?_
  refine v_iload_n C dX0_addPick_13 rfl 3 rfl ?_
  refine v_iastn C 6 (cm) (wLog g la l1 l2 l3 l4 l5 l6 l7 l8 l9 (updN deed (cm) (3)) (updZ first (cm) (((k0 : Nat) : Int))) (updZ second (cm) (-1)) item side (updN picked (cm) (k1)) qcnt (updN (updN An (cm) (2 ^ cm)) (cm) ((updN An (cm) (2 ^ cm)) (cm) ||| (updN An (cm) (2 ^ cm)) (k0))) (updN (updN An (cm) (2 ^ cm)) (cm) ((updN An (cm) (2 ^ cm)) (cm) ||| (updN An (cm) (2 ^ cm)) (k0))) (cm + 1) ++ ([])) rfl rfl (by omega) (by decide) dX0_addPick_14 rfl ?_
  refine v_iload_n C dX0_addPick_15 rfl 0 rfl ?_
  exact (v_iret C hr hl () (by decide) (by decide) rfl rfl dX0_addPick_16)
/-- how many parents: none is -1 -/
def pcn (a b : Int) : Nat := if a = -1 then 0 else if b = -1 then 1 else 2
theorem pcn_le (a b : Int) : pcn a b ≤ 2 := by
  unfold pcn
  repeat' split
  all_goals omega
theorem pcn31 (a b : Int) : b31 ((pcn a b : Nat) : Int) := ⟨by have := pcn_le a b; omega, by have := pcn_le a b; omega⟩
/-- the greatest number in a set, of those up to n; 0 if there is none -/
def gsh (S : Nat) : Nat → Nat
  | 0 => 0
  | n + 1 => if S.testBit (n + 1) = true then n + 1 else gsh S n
theorem gsh_le (S : Nat) : ∀ n, gsh S n ≤ n
  | 0 => Nat.le_refl _
  | n + 1 => by
    show (if _ then _ else _) ≤ _
    have h9 := gsh_le S n
    by_cases h : S.testBit (n + 1) = true
    · rw [if_pos h]
      exact Nat.le_refl _
    · rw [if_neg h]
      exact Nat.le_succ_of_le h9
theorem gsh_t {S n : Nat} (h0 : 0 < n) (h : S.testBit n = true) : gsh S n = n := by
  cases n with
  | zero => omega
  | succ n => exact if_pos h
theorem gsh_f {S n : Nat} (h0 : 0 < n) (h : S.testBit n = false) : gsh S n = gsh S (n - 1) := by
  cases n with
  | zero => omega
  | succ n => exact if_neg (by rw [h]; exact Bool.false_ne_true)
theorem inX0_parentCount_0 : ∀ w ∈ u_ws RX0 TX0 10, w ∈ wsX0_parentCount := by decide +kernel
theorem lkX0_parentCount_15 : Cond.fieldLink RX0 15 "MergeAtelier$Log" "first" "[I" ∈ wsX0_parentCount := by decide +kernel
theorem lkX0_parentCount_18 : Cond.fieldLink RX0 18 "MergeAtelier$Log" "second" "[I" ∈ wsX0_parentCount := by decide +kernel
set_option maxHeartbeats 4000000 in
set_option maxRecDepth 100000 in
theorem kX0_parentCount (l : Launch) (g : vG) {la : Nat} {l1 l2 l3 l4 l5 l6 l7 l8 l9 : Nat} {deed item side picked qcnt An : Nat → Nat} {first second : Nat → Int} {cm : Nat} {c0 : Nat} (hc0 : c0 < 100) (hf : ∀ k, -1 ≤ first k ∧ first k < 100) (hs : ∀ k, -1 ≤ second k ∧ second k < 100) : mI l g yX0_parentCount wsX0_parentCount ({ frames := 0, cells := 0, slots := 0, locals := 0 }) [.ref (la), .int (iI ((c0 : Nat) : Int))] (wLog g la l1 l2 l3 l4 l5 l6 l7 l8 l9 deed first second item side picked qcnt An An cm ++ ([])) (fun _ : Unit => wLog g la l1 l2 l3 l4 l5 l6 l7 l8 l9 deed first second item side picked qcnt An An cm ++ ([])) (fun v _ => v = iI ((pcn (first c0) (second c0) : Nat) : Int)) 0 0 := by
  refine mI_of (cc := cX0_parentCount) (maxL := 2) (ret := (some .int)) (own := RX0) (by decide) rfl rfl (Nat.le_of_ble_eq_true rfl) ?_
  intro p e s m args below meth c A C hr hl hin
  have hf0 := hf c0
  have hs0 := hs c0
  refine v_aload_n C dX0_parentCount_0 rfl 0 rfl ?_
  refine v_get C 0 (kf := 1) rfl rfl (by decide) inX0_parentCount_0 lkX0_parentCount_15 rfl rfl dX0_parentCount_1 ?_
  refine v_iload_n C dX0_parentCount_4 rfl 1 rfl ?_
  refine v_iald C 2 (c0) rfl rfl (by omega) (by decide) dX0_parentCount_5 ?_
  refine v_iconst C (z := -1) dX0_parentCount_6 ?_
  refine v_icmp_ne C 12 dX0_parentCount_7 (by decide) ⟨by omega, by omega⟩ (b31_lit _ rfl) (fun c_1 => ?_) (fun c_1 => ?_)
  ·
    refine v_aload_n C dX0_parentCount_12 rfl 0 rfl ?_
    refine v_get C 0 (kf := 2) rfl rfl (by decide) inX0_parentCount_0 lkX0_parentCount_18 rfl rfl dX0_parentCount_13 ?_
    refine v_iload_n C dX0_parentCount_16 rfl 1 rfl ?_
    refine v_iald C 3 (c0) rfl rfl (by omega) (by decide) dX0_parentCount_17 ?_
    refine v_iconst C (z := -1) dX0_parentCount_18 ?_
    refine v_icmp_ne C 26 dX0_parentCount_19 (by decide) ⟨by omega, by omega⟩ (b31_lit _ rfl) (fun c_2 => ?_) (fun c_2 => ?_)
    ·
      refine v_iconst C (z := 2) dX0_parentCount_26 ?_
      exact (v_iret C hr hl () (by decide) (by decide) rfl (congrArg iI (by unfold pcn; rw [if_neg c_1, if_neg c_2]; rfl)) dX0_parentCount_27)
    ·
      refine v_iconst C (z := 1) dX0_parentCount_22 ?_
      refine v_goto C 27 dX0_parentCount_23 (by decide) ?_
      exact (v_iret C hr hl () (by decide) (by decide) rfl (congrArg iI (by unfold pcn; rw [if_neg c_1, if_pos c_2]; rfl)) dX0_parentCount_27)
  ·
    refine v_iconst C (z := 0) dX0_parentCount_10 ?_
    exact (v_iret C hr hl () (by decide) (by decide) rfl (congrArg iI (by unfold pcn; rw [if_pos c_1]; rfl)) dX0_parentCount_11)
theorem inX0_descends_0 : ∀ w ∈ u_ws RX0 TX0 10, w ∈ wsX0_descends := by decide +kernel
theorem lkX0_descends_33 : Cond.fieldLink RX0 33 "MergeAtelier$Log" "lowAncestors" "[J" ∈ wsX0_descends := by decide +kernel
theorem lkX0_descends_37 : Cond.fieldLink RX0 37 "MergeAtelier$Log" "highAncestors" "[J" ∈ wsX0_descends := by decide +kernel
theorem iniX0_descends_X5 : Cond.initialized RX5 ∈ wsX0_descends := by decide +kernel
theorem staX0_descends_hasNumber : Cond.static yX5_hasNumber ∈ wsX0_descends := by decide +kernel
set_option maxHeartbeats 4000000 in
set_option maxRecDepth 100000 in
theorem kX0_descends (l : Launch) (g : vG) {la : Nat} {l1 l2 l3 l4 l5 l6 l7 l8 l9 : Nat} {deed item side picked qcnt An : Nat → Nat} {first second : Nat → Int} {cm : Nat} {c0 k0 : Nat} (hc0 : c0 < 100) (hk0 : k0 < 100) : mI l g yX0_descends wsX0_descends ({ frames := 2, cells := 0, slots := 0, locals := 44 }) [.ref (la), .int (iI ((c0 : Nat) : Int)), .int (iI ((k0 : Nat) : Int))] (wLog g la l1 l2 l3 l4 l5 l6 l7 l8 l9 deed first second item side picked qcnt An An cm ++ ([])) (fun _ : Unit => wLog g la l1 l2 l3 l4 l5 l6 l7 l8 l9 deed first second item side picked qcnt An An cm ++ ([])) (fun v _ => v = iI (bZ ((An c0).testBit k0))) 0 0 := by
  refine mI_of (cc := cX0_descends) (maxL := 3) (ret := (some .boolean)) (own := RX0) (by decide) rfl rfl (Nat.le_of_ble_eq_true rfl) ?_
  intro p e s m args below meth c A C hr hl hin
  refine v_aload_n C dX0_descends_0 rfl 0 rfl ?_
  refine v_get C 0 (kf := 7) rfl rfl (by decide) inX0_descends_0 lkX0_descends_33 rfl rfl dX0_descends_1 ?_
  refine v_iload_n C dX0_descends_4 rfl 1 rfl ?_
  refine v_lald C 8 (c0) rfl rfl (by omega) (by decide) dX0_descends_5 ?_
  refine v_aload_n C dX0_descends_6 rfl 0 rfl ?_
  refine v_get C 0 (kf := 8) rfl rfl (by decide) inX0_descends_0 lkX0_descends_37 rfl rfl dX0_descends_7 ?_
  refine v_iload_n C dX0_descends_10 rfl 1 rfl ?_
  refine v_lald C 9 (c0) rfl rfl (by omega) (by decide) dX0_descends_11 ?_
  refine v_iload_n C dX0_descends_12 rfl 2 rfl ?_
  refine v_invNI C (As := [.long (lN (An (c0))), .long (hN (An (c0))), .int (iI ((k0 : Nat) : Int))]) (kX5_hasNumber l g (S := An (c0)) (n := k0) (by omega)) ⟨va_cnB 3 C.2.2.2.2.1 gX0_descends_X5_hasNumber_n59 rfl rfl rfl C.2.2.2.2.2.1.2.2.2.1 (C.2.2.2.2.1 _ iniX0_descends_X5) (by decide +kernel) ⟨Nat.le_of_ble_eq_true rfl, Nat.le_of_ble_eq_true rfl⟩, C.2.2.2.2.1 _ staX0_descends_hasNumber, trivial⟩ [wLog g la l1 l2 l3 l4 l5 l6 l7 l8 l9 deed first second item side picked qcnt An An cm] [] [0] [] (fun _ => [wLog g la l1 l2 l3 l4 l5 l6 l7 l8 l9 deed first second item side picked qcnt An An cm]) (fun _ => wLog g la l1 l2 l3 l4 l5 l6 l7 l8 l9 deed first second item side picked qcnt An An cm ++ ([])) rfl rfl rfl (fun _ => rfl) (fun _ => rfl) (fun _ => rfl) (fun _ => rfl) rfl rfl (Nat.le_of_ble_eq_true rfl) dX0_descends_13 ⟨by decide, by decide⟩ (fun r_2 _ h_1 => ?_)
  subst h_1
  exact (v_zret C hr hl () (bZ_nar _) (by decide) (by decide) rfl rfl dX0_descends_16)
theorem inX0_greatestShared_0 : ∀ w ∈ u_ws RX0 TX0 10, w ∈ wsX0_greatestShared := by decide +kernel
theorem lkX0_greatestShared_33 : Cond.fieldLink RX0 33 "MergeAtelier$Log" "lowAncestors" "[J" ∈ wsX0_greatestShared := by decide +kernel
theorem lkX0_greatestShared_37 : Cond.fieldLink RX0 37 "MergeAtelier$Log" "highAncestors" "[J" ∈ wsX0_greatestShared := by decide +kernel
theorem mmw0 : Cond.methodLink RX0 63 Lib.Math.min.name ∈ wsX0_greatestShared := by decide +kernel
theorem mmw1 : Cond.static Lib.Math.min.name ∈ wsX0_greatestShared := by decide +kernel
theorem mmw2 : Cond.initialized "java/lang/Math" ∈ wsX0_greatestShared := by decide +kernel
theorem mmw3 : Cond.code Lib.Math.min.name Lib.Math.min.code 2 (some .int) ∈ wsX0_greatestShared := by decide +kernel
theorem iniX0_greatestShared_X5 : Cond.initialized RX5 ∈ wsX0_greatestShared := by decide +kernel
theorem staX0_greatestShared_hasNumber : Cond.static yX5_hasNumber ∈ wsX0_greatestShared := by decide +kernel
set_option maxHeartbeats 4000000 in
set_option maxRecDepth 100000 in
theorem kX0_greatestShared (l : Launch) (g : vG) {la : Nat} {l1 l2 l3 l4 l5 l6 l7 l8 l9 : Nat} {deed item side picked qcnt An : Nat → Nat} {first second : Nat → Int} {cm : Nat} {c0 c1 : Nat} (hc0 : c0 < 100) (hc1 : c1 < 100) : mI l g yX0_greatestShared wsX0_greatestShared ({ frames := 2, cells := 0, slots := 0, locals := 44 }) [.ref (la), .int (iI ((c0 : Nat) : Int)), .int (iI ((c1 : Nat) : Int))] (wLog g la l1 l2 l3 l4 l5 l6 l7 l8 l9 deed first second item side picked qcnt An An cm ++ ([])) (fun _ : Unit => wLog g la l1 l2 l3 l4 l5 l6 l7 l8 l9 deed first second item side picked qcnt An An cm ++ ([])) (fun v _ => v = iI ((gsh (An c0 &&& An c1) (min c0 c1) : Nat) : Int)) 0 0 := by
  refine mI_of (cc := cX0_greatestShared) (maxL := 8) (ret := (some .int)) (own := RX0) (by decide) rfl rfl (Nat.le_of_ble_eq_true rfl) ?_
  intro p e s m args below meth c A C hr hl hin
  refine v_aload_n C dX0_greatestShared_0 rfl 0 rfl ?_
  refine v_get C 0 (kf := 7) rfl rfl (by decide) inX0_greatestShared_0 lkX0_greatestShared_33 rfl rfl dX0_greatestShared_1 ?_
  refine v_iload_n C dX0_greatestShared_4 rfl 1 rfl ?_
  refine v_lald C 8 (c0) rfl rfl (by omega) (by decide) dX0_greatestShared_5 ?_
  refine v_aload_n C dX0_greatestShared_6 rfl 0 rfl ?_
  refine v_get C 0 (kf := 7) rfl rfl (by decide) inX0_greatestShared_0 lkX0_greatestShared_33 rfl rfl dX0_greatestShared_7 ?_
  refine v_iload_n C dX0_greatestShared_10 rfl 2 rfl ?_
  refine v_lald C 8 (c1) rfl rfl (by omega) (by decide) dX0_greatestShared_11 ?_
  refine v_land_lo C dX0_greatestShared_12 ?_
  refine v_lstore_n C [(3, .long (lN ((An (c0)) &&& (An (c1))))), (0, .ref (la)), (1, .int (iI ((c0 : Nat) : Int))), (2, .int (iI ((c1 : Nat) : Int)))] dX0_greatestShared_13 rfl (by decide) rfl ?_
  refine v_aload_n C dX0_greatestShared_14 rfl 1 rfl ?_
  refine v_get C 0 (kf := 8) rfl rfl (by decide) inX0_greatestShared_0 lkX0_greatestShared_37 rfl rfl dX0_greatestShared_15 ?_
  refine v_iload_n C dX0_greatestShared_18 rfl 2 rfl ?_
  refine v_lald C 9 (c0) rfl rfl (by omega) (by decide) dX0_greatestShared_19 ?_
  refine v_aload_n C dX0_greatestShared_20 rfl 1 rfl ?_
  refine v_get C 0 (kf := 8) rfl rfl (by decide) inX0_greatestShared_0 lkX0_greatestShared_37 rfl rfl dX0_greatestShared_21 ?_
  refine v_iload_n C dX0_greatestShared_24 rfl 3 rfl ?_
  refine v_lald C 9 (c1) rfl rfl (by omega) (by decide) dX0_greatestShared_25 ?_
  refine v_land_hi C dX0_greatestShared_26 ?_
  refine v_lstore C [(5, .long (hN ((An (c0)) &&& (An (c1))))), (3, .long (lN ((An (c0)) &&& (An (c1))))), (0, .ref (la)), (1, .int (iI ((c0 : Nat) : Int))), (2, .int (iI ((c1 : Nat) : Int)))] dX0_greatestShared_27 (by decide) rfl ?_
  refine v_iload_n C dX0_greatestShared_29 rfl 3 rfl ?_
  refine v_iload_n C dX0_greatestShared_30 rfl 4 rfl ?_
  refine v_mmin C mmw0 mmw1 mmw2 mmw3 (by decide) (by decide) (Nat.zero_le _) (Nat.zero_le _) (by omega) (by omega) dX0_greatestShared_31 ?_
  refine v_istore C [(7, .int (iI ((min c0 c1 : Nat) : Int))), (5, .long (hN ((An (c0)) &&& (An (c1))))), (3, .long (lN ((An (c0)) &&& (An (c1))))), (0, .ref (la)), (1, .int (iI ((c0 : Nat) : Int))), (2, .int (iI ((c1 : Nat) : Int)))] dX0_greatestShared_34 (by decide) rfl ?_
  refine v_lv (lv' := [(0, .ref (la)), (1, .int (iI ((c0 : Nat) : Int))), (2, .int (iI ((c1 : Nat) : Int))), (3, .long (lN (An c0 &&& An c1))), (5, .long (hN (An c0 &&& An c1))), (7, .int (iI ((min c0 c1 : Nat) : Int)))]) [3, 4, 5, 2, 1, 0] rfl ?_
  refine v_lp1 (X := Nat) (fun q => wLog g la l1 l2 l3 l4 l5 l6 l7 l8 l9 deed first second item side picked qcnt An An cm ++ ([])) (fun q => [(0, .ref (la)), (1, .int (iI ((c0 : Nat) : Int))), (2, .int (iI ((c1 : Nat) : Int))), (3, .long (lN (An c0 &&& An c1))), (5, .long (hN (An c0 &&& An c1))), (7, .int (iI ((q : Nat) : Int)))]) (fun q => q) (fun q => q ≤ min c0 c1 ∧ gsh (An c0 &&& An c1) (min c0 c1) = gsh (An c0 &&& An c1) q) ?_ (min c0 c1) ⟨Nat.le_refl _, rfl⟩
  intro q hJ36 ih36
  try dsimp only at hJ36 ⊢
  refine v_iload C dX0_greatestShared_36 5 rfl ?_
  refine v_if_le C 61 dX0_greatestShared_38 (by decide) ⟨by omega, by omega⟩ (fun c_1 => ?_) (fun c_1 => ?_)
  ·
    refine v_iconst C (z := 0) dX0_greatestShared_61 ?_
    exact (v_iret C hr hl () (by decide) (by decide) rfl (congrArg iI (by rw [hJ36.2, show q = 0 by omega]; rfl)) dX0_greatestShared_62)
  ·
    refine v_lload_n C dX0_greatestShared_41 rfl 3 rfl ?_
    refine v_lload C dX0_greatestShared_42 4 rfl ?_
    refine v_iload C dX0_greatestShared_44 5 rfl ?_
    refine v_invNI C (As := [.long (lN (An c0 &&& An c1)), .long (hN (An c0 &&& An c1)), .int (iI ((q : Nat) : Int))]) (kX5_hasNumber l g (S := An c0 &&& An c1) (n := q) (by omega)) ⟨va_cnB 3 C.2.2.2.2.1 gX0_greatestShared_X5_hasNumber_n59 rfl rfl rfl C.2.2.2.2.2.1.2.2.2.1 (C.2.2.2.2.1 _ iniX0_greatestShared_X5) (by decide +kernel) ⟨Nat.le_of_ble_eq_true rfl, Nat.le_of_ble_eq_true rfl⟩, C.2.2.2.2.1 _ staX0_greatestShared_hasNumber, trivial⟩ [wLog g la l1 l2 l3 l4 l5 l6 l7 l8 l9 deed first second item side picked qcnt An An cm] [] [0] [] (fun _ => [wLog g la l1 l2 l3 l4 l5 l6 l7 l8 l9 deed first second item side picked qcnt An An cm]) (fun _ => wLog g la l1 l2 l3 l4 l5 l6 l7 l8 l9 deed first second item side picked qcnt An An cm ++ ([])) rfl rfl rfl (fun _ => rfl) (fun _ => rfl) (fun _ => rfl) (fun _ => rfl) rfl rfl (Nat.le_of_ble_eq_true rfl) dX0_greatestShared_46 ⟨by decide, by decide⟩ (fun r_3 _ h_2 => ?_)
    subst h_2
    refine v_ifz_eq C 55 dX0_greatestShared_49 (by decide) (fun c_4 => ?_) (fun c_4 => ?_)
    ·
      refine v_iinc C [(7, .int (iI (((q : Nat) : Int) + (-1)))), (0, .ref (la)), (1, .int (iI ((c0 : Nat) : Int))), (2, .int (iI ((c1 : Nat) : Int))), (3, .long (lN (An c0 &&& An c1))), (5, .long (hN (An c0 &&& An c1)))] dX0_greatestShared_55 5 rfl (by decide) rfl ?_
      refine v_goto C 36 dX0_greatestShared_58 (by decide) ?_
      refine v_lv (lv' := [(0, .ref (la)), (1, .int (iI ((c0 : Nat) : Int))), (2, .int (iI ((c1 : Nat) : Int))), (3, .long (lN (An c0 &&& An c1))), (5, .long (hN (An c0 &&& An c1))), (7, .int (iI (((q : Nat) : Int) + (-1))))]) [1, 2, 3, 4, 5, 0] rfl ?_
      rw [show ((q : Nat) : Int) + (-1) = ((q - 1 : Nat) : Int) from (by omega)]
      exact ih36 (q - 1) ⟨by omega, by rw [hJ36.2]; exact gsh_f (by omega) c_4⟩ (by omega)
    ·
      refine v_iload C dX0_greatestShared_52 5 rfl ?_
      exact (v_iret C hr hl () (by decide) (by decide) rfl (congrArg iI (by rw [hJ36.2, gsh_t (by omega) c_4])) dX0_greatestShared_54)
