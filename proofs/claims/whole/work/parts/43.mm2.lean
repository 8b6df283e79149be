theorem inX6_count_6 : ∀ w ∈ u_ws RX6 TX6 23, w ∈ wsX6_count := by decide +kernel
theorem lkX6_count_55 : Cond.fieldLink RX6 55 "MergeAtelierModel" "told" "I" ∈ wsX6_count := by decide +kernel
set_option maxHeartbeats 4000000 in
set_option maxRecDepth 100000 in
theorem kX6_count (l : Launch) (g : vG) {mm b1 b2 b3 b4 b5 b6 b7 b8 b9 b10 b11 b12 b13 b14 b15 b16 b17 : Nat} {kinds tgs first second vals qs : Nat → Int} {hds An qi qo Tm Nw Kw ris : Nat → Nat} {ni bc cm cn qc cd : Nat} {S : Nat} (hcn : cn ≤ 100) (hS : S < 2 ^ cn) : mI l g yX6_count wsX6_count ({ frames := 1, cells := 0, slots := 0, locals := 24 }) [.ref (mm), .long (loM (S)), .long (hiM (S))] (wMM g mm b1 b2 b3 b4 b5 b6 b7 b8 b9 b10 b11 b12 b13 b14 b15 b16 b17 kinds ni cm first second An An Tm Tm bc hds tgs qc qi qo qs cn vals Nw Nw Kw Kw cd ++ ([])) (fun _ : Unit => wMM g mm b1 b2 b3 b4 b5 b6 b7 b8 b9 b10 b11 b12 b13 b14 b15 b16 b17 kinds ni cm first second An An Tm Tm bc hds tgs qc qi qo qs cn vals Nw Nw Kw Kw cd ++ ([])) (fun v _ => v = iI ((cnt S : Nat) : Int)) 0 0 := by
  refine mI_of (cc := cX6_count) (maxL := 7) (ret := (some .int)) (own := RX6) (by decide) rfl rfl (Nat.le_of_ble_eq_true rfl) ?_
  intro p e s m args below meth c A C hr hl hin
  have hS9 : S < 2 ^ 101 := Nat.lt_of_lt_of_le hS (Nat.pow_le_pow_right (by decide) (by omega))
  refine v_iconst C (z := 0) dX6_count_0 ?_
  refine v_istore C [(5, .int (iI (0))), (0, .ref (mm)), (1, .long (loM (S))), (3, .long (hiM (S)))] dX6_count_1 (by decide) rfl ?_
  refine v_iconst C (z := 0) dX6_count_3 ?_
  refine v_istore C [(6, .int (iI (0))), (5, .int (iI (0))), (0, .ref (mm)), (1, .long (loM (S))), (3, .long (hiM (S)))] dX6_count_4 (by decide) rfl ?_
  refine v_lv (lv' := [(0, .ref (mm)), (1, .long (loM (S))), (3, .long (hiM (S))), (5, .int (iI ((fb_ct (fun j => S.testBit j) 0 : Nat) : Int))), (6, .int (iI ((0 : Nat) : Int)))]) [2, 3, 4, 1, 0] rfl ?_
  refine v_lp1 (X := Nat) (fun q => wMM g mm b1 b2 b3 b4 b5 b6 b7 b8 b9 b10 b11 b12 b13 b14 b15 b16 b17 kinds ni cm first second An An Tm Tm bc hds tgs qc qi qo qs cn vals Nw Nw Kw Kw cd ++ ([])) (fun q => [(0, .ref (mm)), (1, .long (loM (S))), (3, .long (hiM (S))), (5, .int (iI ((fb_ct (fun j => S.testBit j) q : Nat) : Int))), (6, .int (iI ((q : Nat) : Int)))]) (fun q => cn - q) (fun q => q ≤ cn) ?_ (0) (Nat.zero_le _)
  intro q hJ6 ih6
  try dsimp only at hJ6 ⊢
  refine v_iload C dX6_count_6 4 rfl ?_
  refine v_aload_n C dX6_count_8 rfl 0 rfl ?_
  refine v_get C 0 (kf := 16) rfl rfl (by decide) inX6_count_6 lkX6_count_55 rfl rfl dX6_count_9 ?_
  refine v_icmp_ge C 41 dX6_count_12 (by decide) ⟨by omega, by omega⟩ ⟨by omega, by omega⟩ (fun c_1 => ?_) (fun c_1 => ?_)
  ·
    obtain rfl : cn = q := by omega
    refine v_iload C dX6_count_41 3 rfl ?_
    exact (v_iret C hr hl () (by decide) (by decide) rfl (congrArg (fun z : Nat => iI (z : Int)) (cnt_cn hS (by omega))) dX6_count_43)
  ·
    refine v_iload C dX6_count_15 3 rfl ?_
    refine v_lload_n C dX6_count_17 rfl 1 rfl ?_
    refine v_lload_n C dX6_count_18 rfl 2 rfl ?_
    refine v_iload C dX6_count_19 4 rfl ?_
    refine v_invSI C (As := [.long (loM (S)), .long (hiM (S)), .int (iI ((q : Nat) : Int))]) (kX6_has l g  (S := S) (n := q) (by omega) hS9) (cwS 3 C.2.2.2.2.1 gX6_count_X6_has rfl rfl rfl (by decide +kernel) ⟨Nat.le_of_ble_eq_true rfl, Nat.le_of_ble_eq_true rfl⟩) [wMM g mm b1 b2 b3 b4 b5 b6 b7 b8 b9 b10 b11 b12 b13 b14 b15 b16 b17 kinds ni cm first second An An Tm Tm bc hds tgs qc qi qo qs cn vals Nw Nw Kw Kw cd] [] [0] [.int (iI ((fb_ct (fun j => S.testBit j) q : Nat) : Int))] (fun _ => [wMM g mm b1 b2 b3 b4 b5 b6 b7 b8 b9 b10 b11 b12 b13 b14 b15 b16 b17 kinds ni cm first second An An Tm Tm bc hds tgs qc qi qo qs cn vals Nw Nw Kw Kw cd]) (fun _ => wMM g mm b1 b2 b3 b4 b5 b6 b7 b8 b9 b10 b11 b12 b13 b14 b15 b16 b17 kinds ni cm first second An An Tm Tm bc hds tgs qc qi qo qs cn vals Nw Nw Kw Kw cd ++ ([])) rfl rfl rfl (fun _ => rfl) (fun _ => rfl) (fun _ => rfl) (fun _ => rfl) rfl rfl (Nat.le_of_ble_eq_true rfl) dX6_count_21 ⟨by decide, by decide⟩ (fun r_3 _ h_2 => ?_)
    subst h_2
    refine v_ifz_eq C 31 dX6_count_24 (by decide) (fun c_4 => ?_) (fun c_4 => ?_)
    ·
      refine v_iconst C (z := 0) dX6_count_31 ?_
      refine v_iadd C dX6_count_32 ?_
      rw [show (((fb_ct (fun j => S.testBit j) q : Nat) : Int)) + 0 = (((fb_ct (fun j => S.testBit j) q) + 0 : Nat) : Int) from rfl]
      refine v_istore C [(5, .int (iI (((fb_ct (fun j => S.testBit j) q) + 0 : Nat) : Int))), (0, .ref (mm)), (1, .long (loM (S))), (3, .long (hiM (S))), (6, .int (iI ((q : Nat) : Int)))] dX6_count_33 (by decide) rfl ?_
      refine v_iinc C [(6, .int (iI (((q : Nat) : Int) + 1))), (5, .int (iI (((fb_ct (fun j => S.testBit j) q) + 0 : Nat) : Int))), (0, .ref (mm)), (1, .long (loM (S))), (3, .long (hiM (S)))] dX6_count_35 4 rfl (by decide) rfl ?_
      rw [show ((q : Nat) : Int) + 1 = ((q + 1 : Nat) : Int) from rfl]
      refine v_goto C 6 dX6_count_38 (by decide) ?_
      refine v_lv (lv' := [(0, .ref (mm)), (1, .long (loM (S))), (3, .long (hiM (S))), (5, .int (iI (((fb_ct (fun j => S.testBit j) q) + 0 : Nat) : Int))), (6, .int (iI ((q + 1 : Nat) : Int)))]) [2, 3, 4, 1, 0] rfl ?_
      rw [show (((fb_ct (fun j => S.testBit j) q) + 0 : Nat) : Int) = ((fb_ct (fun j => S.testBit j) (q + 1) : Nat) : Int) from (ct_fz c_4)]
      exact ih6 (q + 1) (by omega) (by omega)
    ·
      refine v_iconst C (z := 1) dX6_count_27 ?_
      refine v_goto C 32 dX6_count_28 (by decide) ?_
      refine v_iadd C dX6_count_32 ?_
      rw [show (((fb_ct (fun j => S.testBit j) q : Nat) : Int)) + 1 = (((fb_ct (fun j => S.testBit j) q) + 1 : Nat) : Int) from rfl]
      refine v_istore C [(5, .int (iI (((fb_ct (fun j => S.testBit j) q) + 1 : Nat) : Int))), (0, .ref (mm)), (1, .long (loM (S))), (3, .long (hiM (S))), (6, .int (iI ((q : Nat) : Int)))] dX6_count_33 (by decide) rfl ?_
      refine v_iinc C [(6, .int (iI (((q : Nat) : Int) + 1))), (5, .int (iI (((fb_ct (fun j => S.testBit j) q) + 1 : Nat) : Int))), (0, .ref (mm)), (1, .long (loM (S))), (3, .long (hiM (S)))] dX6_count_35 4 rfl (by decide) rfl ?_
      rw [show ((q : Nat) : Int) + 1 = ((q + 1 : Nat) : Int) from rfl]
      refine v_goto C 6 dX6_count_38 (by decide) ?_
      refine v_lv (lv' := [(0, .ref (mm)), (1, .long (loM (S))), (3, .long (hiM (S))), (5, .int (iI (((fb_ct (fun j => S.testBit j) q) + 1 : Nat) : Int))), (6, .int (iI ((q + 1 : Nat) : Int)))]) [2, 3, 4, 1, 0] rfl ?_
      rw [show (((fb_ct (fun j => S.testBit j) q) + 1 : Nat) : Int) = ((fb_ct (fun j => S.testBit j) (q + 1) : Nat) : Int) from (ct_tz c_4)]
      exact ih6 (q + 1) (by omega) (by omega)
theorem inX6_sideOf_6 : ∀ w ∈ u_ws RX6 TX6 23, w ∈ wsX6_sideOf := by decide +kernel
theorem lkX6_sideOf_55 : Cond.fieldLink RX6 55 "MergeAtelierModel" "told" "I" ∈ wsX6_sideOf := by decide +kernel
theorem lkX6_sideOf_58 : Cond.fieldLink RX6 58 "MergeAtelierModel" "values" "[I" ∈ wsX6_sideOf := by decide +kernel
set_option maxHeartbeats 4000000 in
set_option maxRecDepth 100000 in
theorem kX6_sideOf (l : Launch) (g : vG) {mm b1 b2 b3 b4 b5 b6 b7 b8 b9 b10 b11 b12 b13 b14 b15 b16 b17 : Nat} {kinds tgs first second vals qs : Nat → Int} {hds An qi qo Tm Nw Kw ris : Nat → Nat} {ni bc cm cn qc cd : Nat} {S : Nat} {ix : Int} (hpal : PalOK vals ris cn) (hS : S < 2 ^ cn) (hix : b31 ix) : mI l g yX6_sideOf wsX6_sideOf ({ frames := 1, cells := 0, slots := 0, locals := 24 }) [.ref (mm), .long (loM (S)), .long (hiM (S)), .int (iI (ix))] (wMM g mm b1 b2 b3 b4 b5 b6 b7 b8 b9 b10 b11 b12 b13 b14 b15 b16 b17 kinds ni cm first second An An Tm Tm bc hds tgs qc qi qo qs cn vals Nw Nw Kw Kw cd ++ ([])) (fun _ : Unit => wMM g mm b1 b2 b3 b4 b5 b6 b7 b8 b9 b10 b11 b12 b13 b14 b15 b16 b17 kinds ni cm first second An An Tm Tm bc hds tgs qc qi qo qs cn vals Nw Nw Kw Kw cd ++ ([])) (fun v _ => v = iI (sIx (fun j => S.testBit (ris j)) ris ix cn)) 0 0 := by
  refine mI_of (cc := cX6_sideOf) (maxL := 9) (ret := (some .int)) (own := RX6) (by decide) rfl rfl (Nat.le_of_ble_eq_true rfl) ?_
  intro p e s m args below meth c A C hr hl hin
  have hix1 := hix.1
  have hix2 := hix.2
  obtain ⟨⟨hcn1, hcn⟩, -, -, hrc, -, -, hv, -⟩ := id hpal
  have hS9 : S < 2 ^ 101 := Nat.lt_of_lt_of_le hS (Nat.pow_le_pow_right (by decide) (by omega))
  refine v_iconst C (z := 0) dX6_sideOf_0 ?_
  refine v_istore C [(6, .int (iI (0))), (0, .ref (mm)), (1, .long (loM (S))), (3, .long (hiM (S))), (5, .int (iI (ix)))] dX6_sideOf_1 (by decide) rfl ?_
  refine v_lv (lv' := [(0, .ref (mm)), (1, .long (loM (S))), (3, .long (hiM (S))), (5, .int (iI (ix))), (6, .int (iI ((0 : Nat) : Int)))]) [1, 2, 3, 4, 0] rfl ?_
  refine v_lp1 (X := Nat) (fun q => wMM g mm b1 b2 b3 b4 b5 b6 b7 b8 b9 b10 b11 b12 b13 b14 b15 b16 b17 kinds ni cm first second An An Tm Tm bc hds tgs qc qi qo qs cn vals Nw Nw Kw Kw cd ++ ([])) (fun q => [(0, .ref (mm)), (1, .long (loM (S))), (3, .long (hiM (S))), (5, .int (iI (ix))), (6, .int (iI ((q : Nat) : Int)))]) (fun q => cn - q) (fun q => q ≤ cn ∧ fst (sZ vals cn S ix) q = q) ?_ (0) ⟨Nat.zero_le _, rfl⟩
  intro q hJ3 ih3
  try dsimp only at hJ3 ⊢
  refine v_iload C dX6_sideOf_3 4 rfl ?_
  refine v_aload_n C dX6_sideOf_5 rfl 0 rfl ?_
  refine v_get C 0 (kf := 16) rfl rfl (by decide) inX6_sideOf_6 lkX6_sideOf_55 rfl rfl dX6_sideOf_6 ?_
  refine v_icmp_ge C 96 dX6_sideOf_9 (by decide) ⟨by omega, by omega⟩ ⟨by omega, by omega⟩ (fun c_1 => ?_) (fun c_1 => ?_)
  ·
    obtain rfl : cn = q := by omega
    refine v_iconst C (z := -1) dX6_sideOf_96 ?_
    exact (v_iret C hr hl () (by decide) (by decide) rfl (congrArg iI (sof_none hpal (fst_all hJ3.2)).symm) dX6_sideOf_97)
  ·
    refine v_iconst C (z := 0) dX6_sideOf_12 ?_
    refine v_istore C [(7, .int (iI (0))), (0, .ref (mm)), (1, .long (loM (S))), (3, .long (hiM (S))), (5, .int (iI (ix))), (6, .int (iI ((q : Nat) : Int)))] dX6_sideOf_13 (by decide) rfl ?_
    refine v_iconst C (z := 0) dX6_sideOf_15 ?_
    refine v_istore C [(8, .int (iI (0))), (7, .int (iI (0))), (0, .ref (mm)), (1, .long (loM (S))), (3, .long (hiM (S))), (5, .int (iI (ix))), (6, .int (iI ((q : Nat) : Int)))] dX6_sideOf_16 (by decide) rfl ?_
    refine v_lv (lv' := [(0, .ref (mm)), (1, .long (loM (S))), (3, .long (hiM (S))), (5, .int (iI (ix))), (6, .int (iI ((q : Nat) : Int))), (7, .int (iI ((fb_ct (fun j => S.testBit j && decide (vals j < vals q)) 0 : Nat) : Int))), (8, .int (iI ((0 : Nat) : Int)))]) [2, 3, 4, 5, 6, 1, 0] rfl ?_
    refine v_lp1 (X := Nat) (fun j => wMM g mm b1 b2 b3 b4 b5 b6 b7 b8 b9 b10 b11 b12 b13 b14 b15 b16 b17 kinds ni cm first second An An Tm Tm bc hds tgs qc qi qo qs cn vals Nw Nw Kw Kw cd ++ ([])) (fun j => [(0, .ref (mm)), (1, .long (loM (S))), (3, .long (hiM (S))), (5, .int (iI (ix))), (6, .int (iI ((q : Nat) : Int))), (7, .int (iI ((fb_ct (fun j => S.testBit j && decide (vals j < vals q)) j : Nat) : Int))), (8, .int (iI ((j : Nat) : Int)))]) (fun j => cn - j) (fun j => j ≤ cn) ?_ (0) (Nat.zero_le _)
    intro j hJ18 ih18
    try dsimp only at hJ18 ⊢
    refine v_iload C dX6_sideOf_18 6 rfl ?_
    refine v_aload_n C dX6_sideOf_20 rfl 0 rfl ?_
    refine v_get C 0 (kf := 16) rfl rfl (by decide) inX6_sideOf_6 lkX6_sideOf_55 rfl rfl dX6_sideOf_21 ?_
    refine v_icmp_ge C 70 dX6_sideOf_24 (by decide) ⟨by omega, by omega⟩ ⟨by omega, by omega⟩ (fun c_2 => ?_) (fun c_2 => ?_)
    ·
      obtain rfl : cn = j := by omega
      have hls : lss vals cn S q ≤ cn := fb_ct_le _ _
      refine v_lv (lv' := [(0, .ref (mm)), (1, .long (loM (S))), (3, .long (hiM (S))), (5, .int (iI (ix))), (6, .int (iI ((q : Nat) : Int))), (7, .int (iI ((lss vals cn S q : Nat) : Int))), (8, .int (iI ((cn : Nat) : Int)))]) [0, 1, 2, 3, 4, 5, 6] rfl ?_
      refine v_lload_n C dX6_sideOf_70 rfl 1 rfl ?_
      refine v_lload_n C dX6_sideOf_71 rfl 2 rfl ?_
      refine v_iload C dX6_sideOf_72 4 rfl ?_
      refine v_invSI C (As := [.long (loM (S)), .long (hiM (S)), .int (iI ((q : Nat) : Int))]) (kX6_has l g  (S := S) (n := q) (by omega) hS9) (cwS 3 C.2.2.2.2.1 gX6_sideOf_X6_has rfl rfl rfl (by decide +kernel) ⟨Nat.le_of_ble_eq_true rfl, Nat.le_of_ble_eq_true rfl⟩) [wMM g mm b1 b2 b3 b4 b5 b6 b7 b8 b9 b10 b11 b12 b13 b14 b15 b16 b17 kinds ni cm first second An An Tm Tm bc hds tgs qc qi qo qs cn vals Nw Nw Kw Kw cd] [] [0] [] (fun _ => [wMM g mm b1 b2 b3 b4 b5 b6 b7 b8 b9 b10 b11 b12 b13 b14 b15 b16 b17 kinds ni cm first second An An Tm Tm bc hds tgs qc qi qo qs cn vals Nw Nw Kw Kw cd]) (fun _ => wMM g mm b1 b2 b3 b4 b5 b6 b7 b8 b9 b10 b11 b12 b13 b14 b15 b16 b17 kinds ni cm first second An An Tm Tm bc hds tgs qc qi qo qs cn vals Nw Nw Kw Kw cd ++ ([])) rfl rfl rfl (fun _ => rfl) (fun _ => rfl) (fun _ => rfl) (fun _ => rfl) rfl rfl (Nat.le_of_ble_eq_true rfl) dX6_sideOf_74 ⟨by decide, by decide⟩ (fun r_4 _ h_3 => ?_)
      subst h_3
      refine v_ifz_eq C 90 dX6_sideOf_77 (by decide) (fun c_5 => ?_) (fun c_5 => ?_)
      ·
        refine v_iinc C [(6, .int (iI (((q : Nat) : Int) + 1))), (0, .ref (mm)), (1, .long (loM (S))), (3, .long (hiM (S))), (5, .int (iI (ix))), (7, .int (iI ((lss vals cn S q : Nat) : Int))), (8, .int (iI ((cn : Nat) : Int)))] dX6_sideOf_90 4 rfl (by decide) rfl ?_
        rw [show ((q : Nat) : Int) + 1 = ((q + 1 : Nat) : Int) from rfl]
        refine v_goto C 3 dX6_sideOf_93 (by decide) ?_
        refine v_lv (lv' := [(0, .ref (mm)), (1, .long (loM (S))), (3, .long (hiM (S))), (5, .int (iI (ix))), (6, .int (iI ((q + 1 : Nat) : Int)))]) [1, 2, 3, 4, 0] rfl ?_
        exact ih3 (q + 1) ⟨by omega, fst_miss hJ3.2 (by show (S.testBit q && _) = false; rw [c_5, Bool.false_and])⟩ (by omega)
      ·
        refine v_iload C dX6_sideOf_80 5 rfl ?_
        refine v_iload C dX6_sideOf_82 3 rfl ?_
        refine v_icmp_ne C 90 dX6_sideOf_84 (by decide) ⟨by omega, by omega⟩ ⟨by omega, by omega⟩ (fun c_6 => ?_) (fun c_6 => ?_)
        ·
          refine v_iinc C [(6, .int (iI (((q : Nat) : Int) + 1))), (0, .ref (mm)), (1, .long (loM (S))), (3, .long (hiM (S))), (5, .int (iI (ix))), (7, .int (iI ((lss vals cn S q : Nat) : Int))), (8, .int (iI ((cn : Nat) : Int)))] dX6_sideOf_90 4 rfl (by decide) rfl ?_
          rw [show ((q : Nat) : Int) + 1 = ((q + 1 : Nat) : Int) from rfl]
          refine v_goto C 3 dX6_sideOf_93 (by decide) ?_
          refine v_lv (lv' := [(0, .ref (mm)), (1, .long (loM (S))), (3, .long (hiM (S))), (5, .int (iI (ix))), (6, .int (iI ((q + 1 : Nat) : Int)))]) [1, 2, 3, 4, 0] rfl ?_
          exact ih3 (q + 1) ⟨by omega, fst_miss hJ3.2 (by show (S.testBit q && _) = false; rw [c_5, decide_eq_false (show ¬ ((lss vals cn S q : Nat) : Int) = ix from c_6), Bool.and_false])⟩ (by omega)
        ·
          refine v_iload C dX6_sideOf_87 4 rfl ?_
          exact (v_iret C hr hl () (by decide) (by decide) rfl (congrArg iI (sof_hit hpal (by omega) c_5 c_6).symm) dX6_sideOf_89)
    ·
      refine v_iload C dX6_sideOf_27 5 rfl ?_
      refine v_lload_n C dX6_sideOf_29 rfl 1 rfl ?_
      refine v_lload_n C dX6_sideOf_30 rfl 2 rfl ?_
      refine v_iload C dX6_sideOf_31 6 rfl ?_
      refine v_invSI C (As := [.long (loM (S)), .long (hiM (S)), .int (iI ((j : Nat) : Int))]) (kX6_has l g  (S := S) (n := j) (by omega) hS9) (cwS 3 C.2.2.2.2.1 gX6_sideOf_X6_has rfl rfl rfl (by decide +kernel) ⟨Nat.le_of_ble_eq_true rfl, Nat.le_of_ble_eq_true rfl⟩) [wMM g mm b1 b2 b3 b4 b5 b6 b7 b8 b9 b10 b11 b12 b13 b14 b15 b16 b17 kinds ni cm first second An An Tm Tm bc hds tgs qc qi qo qs cn vals Nw Nw Kw Kw cd] [] [0] [.int (iI ((fb_ct (fun j => S.testBit j && decide (vals j < vals q)) j : Nat) : Int))] (fun _ => [wMM g mm b1 b2 b3 b4 b5 b6 b7 b8 b9 b10 b11 b12 b13 b14 b15 b16 b17 kinds ni cm first second An An Tm Tm bc hds tgs qc qi qo qs cn vals Nw Nw Kw Kw cd]) (fun _ => wMM g mm b1 b2 b3 b4 b5 b6 b7 b8 b9 b10 b11 b12 b13 b14 b15 b16 b17 kinds ni cm first second An An Tm Tm bc hds tgs qc qi qo qs cn vals Nw Nw Kw Kw cd ++ ([])) rfl rfl rfl (fun _ => rfl) (fun _ => rfl) (fun _ => rfl) (fun _ => rfl) rfl rfl (Nat.le_of_ble_eq_true rfl) dX6_sideOf_33 ⟨by decide, by decide⟩ (fun r_8 _ h_7 => ?_)
      subst h_7
      refine v_ifz_eq C 60 dX6_sideOf_36 (by decide) (fun c_9 => ?_) (fun c_9 => ?_)
      ·
        refine v_iconst C (z := 0) dX6_sideOf_60 ?_
        refine v_iadd C dX6_sideOf_61 ?_
        rw [show (((fb_ct (fun j => S.testBit j && decide (vals j < vals q)) j : Nat) : Int)) + 0 = (((fb_ct (fun j => S.testBit j && decide (vals j < vals q)) j) + 0 : Nat) : Int) from rfl]
        refine v_istore C [(7, .int (iI (((fb_ct (fun j => S.testBit j && decide (vals j < vals q)) j) + 0 : Nat) : Int))), (0, .ref (mm)), (1, .long (loM (S))), (3, .long (hiM (S))), (5, .int (iI (ix))), (6, .int (iI ((q : Nat) : Int))), (8, .int (iI ((j : Nat) : Int)))] dX6_sideOf_62 (by decide) rfl ?_
        refine v_iinc C [(8, .int (iI (((j : Nat) : Int) + 1))), (7, .int (iI (((fb_ct (fun j => S.testBit j && decide (vals j < vals q)) j) + 0 : Nat) : Int))), (0, .ref (mm)), (1, .long (loM (S))), (3, .long (hiM (S))), (5, .int (iI (ix))), (6, .int (iI ((q : Nat) : Int)))] dX6_sideOf_64 6 rfl (by decide) rfl ?_
        rw [show ((j : Nat) : Int) + 1 = ((j + 1 : Nat) : Int) from rfl]
        refine v_goto C 18 dX6_sideOf_67 (by decide) ?_
        refine v_lv (lv' := [(0, .ref (mm)), (1, .long (loM (S))), (3, .long (hiM (S))), (5, .int (iI (ix))), (6, .int (iI ((q : Nat) : Int))), (7, .int (iI (((fb_ct (fun j => S.testBit j && decide (vals j < vals q)) j) + 0 : Nat) : Int))), (8, .int (iI ((j + 1 : Nat) : Int)))]) [2, 3, 4, 5, 6, 1, 0] rfl ?_
        rw [show (((fb_ct (fun j => S.testBit j && decide (vals j < vals q)) j) + 0 : Nat) : Int) = ((fb_ct (fun j => S.testBit j && decide (vals j < vals q)) (j + 1) : Nat) : Int) from (ct_fz (by show (S.testBit j && _) = false; rw [c_9]; rfl))]
        exact ih18 (j + 1) (by omega) (by omega)
      ·
        have hvj := hv j
        have hvq := hv q
        refine v_aload_n C dX6_sideOf_39 rfl 0 rfl ?_
        refine v_get C 0 (kf := 17) rfl rfl (by decide) inX6_sideOf_6 lkX6_sideOf_58 rfl rfl dX6_sideOf_40 ?_
        refine v_iload C dX6_sideOf_43 6 rfl ?_
        refine v_iald C 13 (j) rfl rfl (by omega) (by decide) dX6_sideOf_45 ?_
        refine v_aload_n C dX6_sideOf_46 rfl 0 rfl ?_
        refine v_get C 0 (kf := 17) rfl rfl (by decide) inX6_sideOf_6 lkX6_sideOf_58 rfl rfl dX6_sideOf_47 ?_
        refine v_iload C dX6_sideOf_50 4 rfl ?_
        refine v_iald C 13 (q) rfl rfl (by omega) (by decide) dX6_sideOf_52 ?_
        refine v_icmp_ge C 60 dX6_sideOf_53 (by decide) ⟨by omega, by omega⟩ ⟨by omega, by omega⟩ (fun c_10 => ?_) (fun c_10 => ?_)
        ·
          refine v_iconst C (z := 0) dX6_sideOf_60 ?_
          refine v_iadd C dX6_sideOf_61 ?_
          rw [show (((fb_ct (fun j => S.testBit j && decide (vals j < vals q)) j : Nat) : Int)) + 0 = (((fb_ct (fun j => S.testBit j && decide (vals j < vals q)) j) + 0 : Nat) : Int) from rfl]
          refine v_istore C [(7, .int (iI (((fb_ct (fun j => S.testBit j && decide (vals j < vals q)) j) + 0 : Nat) : Int))), (0, .ref (mm)), (1, .long (loM (S))), (3, .long (hiM (S))), (5, .int (iI (ix))), (6, .int (iI ((q : Nat) : Int))), (8, .int (iI ((j : Nat) : Int)))] dX6_sideOf_62 (by decide) rfl ?_
          refine v_iinc C [(8, .int (iI (((j : Nat) : Int) + 1))), (7, .int (iI (((fb_ct (fun j => S.testBit j && decide (vals j < vals q)) j) + 0 : Nat) : Int))), (0, .ref (mm)), (1, .long (loM (S))), (3, .long (hiM (S))), (5, .int (iI (ix))), (6, .int (iI ((q : Nat) : Int)))] dX6_sideOf_64 6 rfl (by decide) rfl ?_
          rw [show ((j : Nat) : Int) + 1 = ((j + 1 : Nat) : Int) from rfl]
          refine v_goto C 18 dX6_sideOf_67 (by decide) ?_
          refine v_lv (lv' := [(0, .ref (mm)), (1, .long (loM (S))), (3, .long (hiM (S))), (5, .int (iI (ix))), (6, .int (iI ((q : Nat) : Int))), (7, .int (iI (((fb_ct (fun j => S.testBit j && decide (vals j < vals q)) j) + 0 : Nat) : Int))), (8, .int (iI ((j + 1 : Nat) : Int)))]) [2, 3, 4, 5, 6, 1, 0] rfl ?_
          rw [show (((fb_ct (fun j => S.testBit j && decide (vals j < vals q)) j) + 0 : Nat) : Int) = ((fb_ct (fun j => S.testBit j && decide (vals j < vals q)) (j + 1) : Nat) : Int) from (ct_fz (by show (S.testBit j && decide (vals j < vals q)) = false; rw [c_9, decide_eq_false (show ¬ vals j < vals q by omega)]; rfl))]
          exact ih18 (j + 1) (by omega) (by omega)
        ·
          refine v_iconst C (z := 1) dX6_sideOf_56 ?_
          refine v_goto C 61 dX6_sideOf_57 (by decide) ?_
          refine v_iadd C dX6_sideOf_61 ?_
          rw [show (((fb_ct (fun j => S.testBit j && decide (vals j < vals q)) j : Nat) : Int)) + 1 = (((fb_ct (fun j => S.testBit j && decide (vals j < vals q)) j) + 1 : Nat) : Int) from rfl]
          refine v_istore C [(7, .int (iI (((fb_ct (fun j => S.testBit j && decide (vals j < vals q)) j) + 1 : Nat) : Int))), (0, .ref (mm)), (1, .long (loM (S))), (3, .long (hiM (S))), (5, .int (iI (ix))), (6, .int (iI ((q : Nat) : Int))), (8, .int (iI ((j : Nat) : Int)))] dX6_sideOf_62 (by decide) rfl ?_
          refine v_iinc C [(8, .int (iI (((j : Nat) : Int) + 1))), (7, .int (iI (((fb_ct (fun j => S.testBit j && decide (vals j < vals q)) j) + 1 : Nat) : Int))), (0, .ref (mm)), (1, .long (loM (S))), (3, .long (hiM (S))), (5, .int (iI (ix))), (6, .int (iI ((q : Nat) : Int)))] dX6_sideOf_64 6 rfl (by decide) rfl ?_
          rw [show ((j : Nat) : Int) + 1 = ((j + 1 : Nat) : Int) from rfl]
          refine v_goto C 18 dX6_sideOf_67 (by decide) ?_
          refine v_lv (lv' := [(0, .ref (mm)), (1, .long (loM (S))), (3, .long (hiM (S))), (5, .int (iI (ix))), (6, .int (iI ((q : Nat) : Int))), (7, .int (iI (((fb_ct (fun j => S.testBit j && decide (vals j < vals q)) j) + 1 : Nat) : Int))), (8, .int (iI ((j + 1 : Nat) : Int)))]) [2, 3, 4, 5, 6, 1, 0] rfl ?_
          rw [show (((fb_ct (fun j => S.testBit j && decide (vals j < vals q)) j) + 1 : Nat) : Int) = ((fb_ct (fun j => S.testBit j && decide (vals j < vals q)) (j + 1) : Nat) : Int) from (ct_tz (by show (S.testBit j && decide (vals j < vals q)) = true; rw [c_9, decide_eq_true (show vals j < vals q by omega)]; rfl))]
          exact ih18 (j + 1) (by omega) (by omega)
theorem inX6_isSame_6 : ∀ w ∈ u_ws RX6 TX6 23, w ∈ wsX6_isSame := by decide +kernel
theorem lkX6_isSame_31 : Cond.fieldLink RX6 31 "MergeAtelierModel" "low" "[J" ∈ wsX6_isSame := by decide +kernel
theorem lkX6_isSame_34 : Cond.fieldLink RX6 34 "MergeAtelierModel" "high" "[J" ∈ wsX6_isSame := by decide +kernel
set_option maxHeartbeats 4000000 in
set_option maxRecDepth 100000 in
theorem kX6_isSame (l : Launch) (g : vG) {mm b1 b2 b3 b4 b5 b6 b7 b8 b9 b10 b11 b12 b13 b14 b15 b16 b17 : Nat} {kinds tgs first second vals qs : Nat → Int} {hds An qi qo Tm Nw Kw ris : Nat → Nat} {ni bc cm cn qc cd : Nat} {c0 d0 i0 : Nat} (hc0 : c0 < 100) (hd0 : d0 < 100) (hi0 : i0 < 12) (hTm : T101 Tm) : mI l g yX6_isSame wsX6_isSame ({ frames := 1, cells := 0, slots := 0, locals := 21 }) [.ref (mm), .int (iI ((c0 : Nat) : Int)), .int (iI ((d0 : Nat) : Int)), .int (iI ((i0 : Nat) : Int))] (wMM g mm b1 b2 b3 b4 b5 b6 b7 b8 b9 b10 b11 b12 b13 b14 b15 b16 b17 kinds ni cm first second An An Tm Tm bc hds tgs qc qi qo qs cn vals Nw Nw Kw Kw cd ++ ([])) (fun _ : Unit => wMM g mm b1 b2 b3 b4 b5 b6 b7 b8 b9 b10 b11 b12 b13 b14 b15 b16 b17 kinds ni cm first second An An Tm Tm bc hds tgs qc qi qo qs cn vals Nw Nw Kw Kw cd ++ ([])) (fun v _ => v = iI (bZ (decide (Tm (12 * c0 + i0) = Tm (12 * d0 + i0))))) 0 0 := by
  refine mI_of (cc := cX6_isSame) (maxL := 4) (ret := (some .boolean)) (own := RX6) (by decide) rfl rfl (Nat.le_of_ble_eq_true rfl) ?_
  intro p e s m args below meth c A C hr hl hin
  refine v_aload_n C dX6_isSame_0 rfl 0 rfl ?_
  refine v_get C 0 (kf := 7) rfl rfl (by decide) inX6_isSame_6 lkX6_isSame_31 rfl rfl dX6_isSame_1 ?_
  refine v_iload_n C dX6_isSame_4 rfl 1 rfl ?_
  refine v_iload_n C dX6_isSame_5 rfl 3 rfl ?_
  refine v_invSI C (As := [.int (iI ((c0 : Nat) : Int)), .int (iI ((i0 : Nat) : Int))]) (kX6_at l g  (r0 := c0) (i0 := i0) ) (cwS 2 C.2.2.2.2.1 gX6_isSame_X6_at rfl rfl rfl (by decide +kernel) ⟨Nat.le_of_ble_eq_true rfl, Nat.le_of_ble_eq_true rfl⟩) [wMM g mm b1 b2 b3 b4 b5 b6 b7 b8 b9 b10 b11 b12 b13 b14 b15 b16 b17 kinds ni cm first second An An Tm Tm bc hds tgs qc qi qo qs cn vals Nw Nw Kw Kw cd] [] [0] [.ref (b6)] (fun _ => [wMM g mm b1 b2 b3 b4 b5 b6 b7 b8 b9 b10 b11 b12 b13 b14 b15 b16 b17 kinds ni cm first second An An Tm Tm bc hds tgs qc qi qo qs cn vals Nw Nw Kw Kw cd]) (fun _ => wMM g mm b1 b2 b3 b4 b5 b6 b7 b8 b9 b10 b11 b12 b13 b14 b15 b16 b17 kinds ni cm first second An An Tm Tm bc hds tgs qc qi qo qs cn vals Nw Nw Kw Kw cd ++ ([])) rfl rfl rfl (fun _ => rfl) (fun _ => rfl) (fun _ => rfl) (fun _ => rfl) rfl rfl (Nat.le_of_ble_eq_true rfl) dX6_isSame_6 ⟨by decide, by decide⟩ (fun r_2 _ h_1 => ?_)
  subst h_1
  refine v_lald C 6 (12 * c0 + i0) rfl rfl (by omega) (by decide) dX6_isSame_9 ?_
  refine v_aload_n C dX6_isSame_10 rfl 0 rfl ?_
  refine v_get C 0 (kf := 7) rfl rfl (by decide) inX6_isSame_6 lkX6_isSame_31 rfl rfl dX6_isSame_11 ?_
  refine v_iload_n C dX6_isSame_14 rfl 2 rfl ?_
  refine v_iload_n C dX6_isSame_15 rfl 3 rfl ?_
  refine v_invSI C (As := [.int (iI ((d0 : Nat) : Int)), .int (iI ((i0 : Nat) : Int))]) (kX6_at l g  (r0 := d0) (i0 := i0) ) (cwS 2 C.2.2.2.2.1 gX6_isSame_X6_at rfl rfl rfl (by decide +kernel) ⟨Nat.le_of_ble_eq_true rfl, Nat.le_of_ble_eq_true rfl⟩) [wMM g mm b1 b2 b3 b4 b5 b6 b7 b8 b9 b10 b11 b12 b13 b14 b15 b16 b17 kinds ni cm first second An An Tm Tm bc hds tgs qc qi qo qs cn vals Nw Nw Kw Kw cd] [] [0] [.ref (b6), .long (loM (Tm (12 * c0 + i0)))] (fun _ => [wMM g mm b1 b2 b3 b4 b5 b6 b7 b8 b9 b10 b11 b12 b13 b14 b15 b16 b17 kinds ni cm first second An An Tm Tm bc hds tgs qc qi qo qs cn vals Nw Nw Kw Kw cd]) (fun _ => wMM g mm b1 b2 b3 b4 b5 b6 b7 b8 b9 b10 b11 b12 b13 b14 b15 b16 b17 kinds ni cm first second An An Tm Tm bc hds tgs qc qi qo qs cn vals Nw Nw Kw Kw cd ++ ([])) rfl rfl rfl (fun _ => rfl) (fun _ => rfl) (fun _ => rfl) (fun _ => rfl) rfl rfl (Nat.le_of_ble_eq_true rfl) dX6_isSame_16 ⟨by decide, by decide⟩ (fun r_4 _ h_3 => ?_)
  subst h_3
  refine v_lald C 6 (12 * d0 + i0) rfl rfl (by omega) (by decide) dX6_isSame_19 ?_
  refine v_lcmp C dX6_isSame_20 ?_
  refine v_ifl_ne C 52 dX6_isSame_21 (by decide) (fun c_5 => ?_) (fun c_5 => ?_)
  ·
    refine v_iconst C (z := 0) dX6_isSame_52 ?_
    exact (v_zret C hr hl () rfl (by decide) (by decide) rfl (bz_df (fun x => c_5 (congrArg loM x))) dX6_isSame_53)
  ·
    refine v_aload_n C dX6_isSame_24 rfl 0 rfl ?_
    refine v_get C 0 (kf := 8) rfl rfl (by decide) inX6_isSame_6 lkX6_isSame_34 rfl rfl dX6_isSame_25 ?_
    refine v_iload_n C dX6_isSame_28 rfl 1 rfl ?_
    refine v_iload_n C dX6_isSame_29 rfl 3 rfl ?_
    refine v_invSI C (As := [.int (iI ((c0 : Nat) : Int)), .int (iI ((i0 : Nat) : Int))]) (kX6_at l g  (r0 := c0) (i0 := i0) ) (cwS 2 C.2.2.2.2.1 gX6_isSame_X6_at rfl rfl rfl (by decide +kernel) ⟨Nat.le_of_ble_eq_true rfl, Nat.le_of_ble_eq_true rfl⟩) [wMM g mm b1 b2 b3 b4 b5 b6 b7 b8 b9 b10 b11 b12 b13 b14 b15 b16 b17 kinds ni cm first second An An Tm Tm bc hds tgs qc qi qo qs cn vals Nw Nw Kw Kw cd] [] [0] [.ref (b7)] (fun _ => [wMM g mm b1 b2 b3 b4 b5 b6 b7 b8 b9 b10 b11 b12 b13 b14 b15 b16 b17 kinds ni cm first second An An Tm Tm bc hds tgs qc qi qo qs cn vals Nw Nw Kw Kw cd]) (fun _ => wMM g mm b1 b2 b3 b4 b5 b6 b7 b8 b9 b10 b11 b12 b13 b14 b15 b16 b17 kinds ni cm first second An An Tm Tm bc hds tgs qc qi qo qs cn vals Nw Nw Kw Kw cd ++ ([])) rfl rfl rfl (fun _ => rfl) (fun _ => rfl) (fun _ => rfl) (fun _ => rfl) rfl rfl (Nat.le_of_ble_eq_true rfl) dX6_isSame_30 ⟨by decide, by decide⟩ (fun r_7 _ h_6 => ?_)
    subst h_6
    refine v_lald C 7 (12 * c0 + i0) rfl rfl (by omega) (by decide) dX6_isSame_33 ?_
    refine v_aload_n C dX6_isSame_34 rfl 0 rfl ?_
    refine v_get C 0 (kf := 8) rfl rfl (by decide) inX6_isSame_6 lkX6_isSame_34 rfl rfl dX6_isSame_35 ?_
    refine v_iload_n C dX6_isSame_38 rfl 2 rfl ?_
    refine v_iload_n C dX6_isSame_39 rfl 3 rfl ?_
    refine v_invSI C (As := [.int (iI ((d0 : Nat) : Int)), .int (iI ((i0 : Nat) : Int))]) (kX6_at l g  (r0 := d0) (i0 := i0) ) (cwS 2 C.2.2.2.2.1 gX6_isSame_X6_at rfl rfl rfl (by decide +kernel) ⟨Nat.le_of_ble_eq_true rfl, Nat.le_of_ble_eq_true rfl⟩) [wMM g mm b1 b2 b3 b4 b5 b6 b7 b8 b9 b10 b11 b12 b13 b14 b15 b16 b17 kinds ni cm first second An An Tm Tm bc hds tgs qc qi qo qs cn vals Nw Nw Kw Kw cd] [] [0] [.ref (b7), .long (hiM (Tm (12 * c0 + i0)))] (fun _ => [wMM g mm b1 b2 b3 b4 b5 b6 b7 b8 b9 b10 b11 b12 b13 b14 b15 b16 b17 kinds ni cm first second An An Tm Tm bc hds tgs qc qi qo qs cn vals Nw Nw Kw Kw cd]) (fun _ => wMM g mm b1 b2 b3 b4 b5 b6 b7 b8 b9 b10 b11 b12 b13 b14 b15 b16 b17 kinds ni cm first second An An Tm Tm bc hds tgs qc qi qo qs cn vals Nw Nw Kw Kw cd ++ ([])) rfl rfl rfl (fun _ => rfl) (fun _ => rfl) (fun _ => rfl) (fun _ => rfl) rfl rfl (Nat.le_of_ble_eq_true rfl) dX6_isSame_40 ⟨by decide, by decide⟩ (fun r_9 _ h_8 => ?_)
    subst h_8
    refine v_lald C 7 (12 * d0 + i0) rfl rfl (by omega) (by decide) dX6_isSame_43 ?_
    refine v_lcmp C dX6_isSame_44 ?_
    refine v_ifl_ne C 52 dX6_isSame_45 (by decide) (fun c_10 => ?_) (fun c_10 => ?_)
    ·
      refine v_iconst C (z := 0) dX6_isSame_52 ?_
      exact (v_zret C hr hl () rfl (by decide) (by decide) rfl (bz_df (fun x => c_10 (congrArg hiM x))) dX6_isSame_53)
    ·
      refine v_iconst C (z := 1) dX6_isSame_48 ?_
      refine v_goto C 53 dX6_isSame_49 (by decide) ?_
      exact (v_zret C hr hl () rfl (by decide) (by decide) rfl (bz_dt (m_eq (hTm _) (hTm _) c_5 c_10)) dX6_isSame_53)
theorem inX6_sidesIn_6 : ∀ w ∈ u_ws RX6 TX6 23, w ∈ wsX6_sidesIn := by decide +kernel
theorem lkX6_sidesIn_31 : Cond.fieldLink RX6 31 "MergeAtelierModel" "low" "[J" ∈ wsX6_sidesIn := by decide +kernel
theorem lkX6_sidesIn_34 : Cond.fieldLink RX6 34 "MergeAtelierModel" "high" "[J" ∈ wsX6_sidesIn := by decide +kernel
set_option maxHeartbeats 4000000 in
set_option maxRecDepth 100000 in
theorem kX6_sidesIn (l : Launch) (g : vG) {mm b1 b2 b3 b4 b5 b6 b7 b8 b9 b10 b11 b12 b13 b14 b15 b16 b17 : Nat} {kinds tgs first second vals qs : Nat → Int} {hds An qi qo Tm Nw Kw ris : Nat → Nat} {ni bc cm cn qc cd : Nat} {c0 i0 : Nat} (hc0 : c0 < 100) (hi0 : i0 < 12) (hcn : cn ≤ 100) (hS : Tm (12 * c0 + i0) < 2 ^ cn) : mI l g yX6_sidesIn wsX6_sidesIn ({ frames := 2, cells := 0, slots := 0, locals := 50 }) [.ref (mm), .int (iI ((c0 : Nat) : Int)), .int (iI ((i0 : Nat) : Int))] (wMM g mm b1 b2 b3 b4 b5 b6 b7 b8 b9 b10 b11 b12 b13 b14 b15 b16 b17 kinds ni cm first second An An Tm Tm bc hds tgs qc qi qo qs cn vals Nw Nw Kw Kw cd ++ ([])) (fun _ : Unit => wMM g mm b1 b2 b3 b4 b5 b6 b7 b8 b9 b10 b11 b12 b13 b14 b15 b16 b17 kinds ni cm first second An An Tm Tm bc hds tgs qc qi qo qs cn vals Nw Nw Kw Kw cd ++ ([])) (fun v _ => v = iI ((cnt (Tm (12 * c0 + i0)) : Nat) : Int)) 0 0 := by
  refine mI_of (cc := cX6_sidesIn) (maxL := 3) (ret := (some .int)) (own := RX6) (by decide) rfl rfl (Nat.le_of_ble_eq_true rfl) ?_
  intro p e s m args below meth c A C hr hl hin
  refine v_aload_n C dX6_sidesIn_0 rfl 0 rfl ?_
  refine v_aload_n C dX6_sidesIn_1 rfl 0 rfl ?_
  refine v_get C 0 (kf := 7) rfl rfl (by decide) inX6_sidesIn_6 lkX6_sidesIn_31 rfl rfl dX6_sidesIn_2 ?_
  refine v_iload_n C dX6_sidesIn_5 rfl 1 rfl ?_
  refine v_iload_n C dX6_sidesIn_6 rfl 2 rfl ?_
  refine v_invSI C (As := [.int (iI ((c0 : Nat) : Int)), .int (iI ((i0 : Nat) : Int))]) (kX6_at l g  (r0 := c0) (i0 := i0) ) (cwS 2 C.2.2.2.2.1 gX6_sidesIn_X6_at rfl rfl rfl (by decide +kernel) ⟨Nat.le_of_ble_eq_true rfl, Nat.le_of_ble_eq_true rfl⟩) [wMM g mm b1 b2 b3 b4 b5 b6 b7 b8 b9 b10 b11 b12 b13 b14 b15 b16 b17 kinds ni cm first second An An Tm Tm bc hds tgs qc qi qo qs cn vals Nw Nw Kw Kw cd] [] [0] [.ref (b6), .ref (mm)] (fun _ => [wMM g mm b1 b2 b3 b4 b5 b6 b7 b8 b9 b10 b11 b12 b13 b14 b15 b16 b17 kinds ni cm first second An An Tm Tm bc hds tgs qc qi qo qs cn vals Nw Nw Kw Kw cd]) (fun _ => wMM g mm b1 b2 b3 b4 b5 b6 b7 b8 b9 b10 b11 b12 b13 b14 b15 b16 b17 kinds ni cm first second An An Tm Tm bc hds tgs qc qi qo qs cn vals Nw Nw Kw Kw cd ++ ([])) rfl rfl rfl (fun _ => rfl) (fun _ => rfl) (fun _ => rfl) (fun _ => rfl) rfl rfl (Nat.le_of_ble_eq_true rfl) dX6_sidesIn_7 ⟨by decide, by decide⟩ (fun r_2 _ h_1 => ?_)
  subst h_1
  refine v_lald C 6 (12 * c0 + i0) rfl rfl (by omega) (by decide) dX6_sidesIn_10 ?_
  refine v_aload_n C dX6_sidesIn_11 rfl 0 rfl ?_
  refine v_get C 0 (kf := 8) rfl rfl (by decide) inX6_sidesIn_6 lkX6_sidesIn_34 rfl rfl dX6_sidesIn_12 ?_
  refine v_iload_n C dX6_sidesIn_15 rfl 1 rfl ?_
  refine v_iload_n C dX6_sidesIn_16 rfl 2 rfl ?_
  refine v_invSI C (As := [.int (iI ((c0 : Nat) : Int)), .int (iI ((i0 : Nat) : Int))]) (kX6_at l g  (r0 := c0) (i0 := i0) ) (cwS 2 C.2.2.2.2.1 gX6_sidesIn_X6_at rfl rfl rfl (by decide +kernel) ⟨Nat.le_of_ble_eq_true rfl, Nat.le_of_ble_eq_true rfl⟩) [wMM g mm b1 b2 b3 b4 b5 b6 b7 b8 b9 b10 b11 b12 b13 b14 b15 b16 b17 kinds ni cm first second An An Tm Tm bc hds tgs qc qi qo qs cn vals Nw Nw Kw Kw cd] [] [0] [.ref (b7), .long (loM (Tm (12 * c0 + i0))), .ref (mm)] (fun _ => [wMM g mm b1 b2 b3 b4 b5 b6 b7 b8 b9 b10 b11 b12 b13 b14 b15 b16 b17 kinds ni cm first second An An Tm Tm bc hds tgs qc qi qo qs cn vals Nw Nw Kw Kw cd]) (fun _ => wMM g mm b1 b2 b3 b4 b5 b6 b7 b8 b9 b10 b11 b12 b13 b14 b15 b16 b17 kinds ni cm first second An An Tm Tm bc hds tgs qc qi qo qs cn vals Nw Nw Kw Kw cd ++ ([])) rfl rfl rfl (fun _ => rfl) (fun _ => rfl) (fun _ => rfl) (fun _ => rfl) rfl rfl (Nat.le_of_ble_eq_true rfl) dX6_sidesIn_17 ⟨by decide, by decide⟩ (fun r_4 _ h_3 => ?_)
  subst h_3
  refine v_lald C 7 (12 * c0 + i0) rfl rfl (by omega) (by decide) dX6_sidesIn_20 ?_
  refine v_invVI C (As := [.long (loM (Tm (12 * c0 + i0))), .long (hiM (Tm (12 * c0 + i0)))]) (q0 := 0) (ci := 6) (kX6_count l g (mm := mm) (b1 := b1) (b2 := b2) (b3 := b3) (b4 := b4) (b5 := b5) (b6 := b6) (b7 := b7) (b8 := b8) (b9 := b9) (b10 := b10) (b11 := b11) (b12 := b12) (b13 := b13) (b14 := b14) (b15 := b15) (b16 := b16) (b17 := b17) (kinds := kinds) (tgs := tgs) (first := first) (second := second) (vals := vals) (qs := qs) (hds := hds) (An := An) (qi := qi) (qo := qo) (Tm := Tm) (Nw := Nw) (Kw := Kw) (ni := ni) (bc := bc) (cm := cm) (cn := cn) (qc := qc) (cd := cd) (ris := ris) (S := Tm (12 * c0 + i0)) (by omega) hS) (cwV 2 C.2.2.2.2.1 gX6_sidesIn_X6_count rfl rfl rfl (by decide +kernel) ⟨Nat.le_of_ble_eq_true rfl, Nat.le_of_ble_eq_true rfl⟩) [wMM g mm b1 b2 b3 b4 b5 b6 b7 b8 b9 b10 b11 b12 b13 b14 b15 b16 b17 kinds ni cm first second An An Tm Tm bc hds tgs qc qi qo qs cn vals Nw Nw Kw Kw cd] [0] [] [] (fun _ => [wMM g mm b1 b2 b3 b4 b5 b6 b7 b8 b9 b10 b11 b12 b13 b14 b15 b16 b17 kinds ni cm first second An An Tm Tm bc hds tgs qc qi qo qs cn vals Nw Nw Kw Kw cd]) (fun _ => wMM g mm b1 b2 b3 b4 b5 b6 b7 b8 b9 b10 b11 b12 b13 b14 b15 b16 b17 kinds ni cm first second An An Tm Tm bc hds tgs qc qi qo qs cn vals Nw Nw Kw Kw cd ++ ([])) rfl rfl rfl (fun _ => rfl) (fun _ => rfl) (fun _ => rfl) (fun _ => rfl) rfl rfl rfl rfl rfl (Nat.le_of_ble_eq_true rfl) dX6_sidesIn_21 ⟨by decide, by decide⟩ (fun r_6 _ h_5 => ?_)
  subst h_5
  exact (v_iret C hr hl () (by decide) (by decide) rfl rfl dX6_sidesIn_24)
theorem inX6_isOld_6 : ∀ w ∈ u_ws RX6 TX6 23, w ∈ wsX6_isOld := by decide +kernel
theorem lkX6_isOld_24 : Cond.fieldLink RX6 24 "MergeAtelierModel" "oldLow" "[J" ∈ wsX6_isOld := by decide +kernel
theorem lkX6_isOld_28 : Cond.fieldLink RX6 28 "MergeAtelierModel" "oldHigh" "[J" ∈ wsX6_isOld := by decide +kernel
set_option maxHeartbeats 4000000 in
set_option maxRecDepth 100000 in
theorem kX6_isOld (l : Launch) (g : vG) {mm b1 b2 b3 b4 b5 b6 b7 b8 b9 b10 b11 b12 b13 b14 b15 b16 b17 : Nat} {kinds tgs first second vals qs : Nat → Int} {hds An qi qo Tm Nw Kw ris : Nat → Nat} {ni bc cm cn qc cd : Nat} {c0 d0 : Nat} (hc0 : c0 < 100) (hd0 : d0 < 100) (hAn : T101 An) : mI l g yX6_isOld wsX6_isOld ({ frames := 1, cells := 0, slots := 0, locals := 24 }) [.ref (mm), .int (iI ((c0 : Nat) : Int)), .int (iI ((d0 : Nat) : Int))] (wMM g mm b1 b2 b3 b4 b5 b6 b7 b8 b9 b10 b11 b12 b13 b14 b15 b16 b17 kinds ni cm first second An An Tm Tm bc hds tgs qc qi qo qs cn vals Nw Nw Kw Kw cd ++ ([])) (fun _ : Unit => wMM g mm b1 b2 b3 b4 b5 b6 b7 b8 b9 b10 b11 b12 b13 b14 b15 b16 b17 kinds ni cm first second An An Tm Tm bc hds tgs qc qi qo qs cn vals Nw Nw Kw Kw cd ++ ([])) (fun v _ => v = iI (bZ ((An d0).testBit c0))) 0 0 := by
  refine mI_of (cc := cX6_isOld) (maxL := 3) (ret := (some .boolean)) (own := RX6) (by decide) rfl rfl (Nat.le_of_ble_eq_true rfl) ?_
  intro p e s m args below meth c A C hr hl hin
  refine v_aload_n C dX6_isOld_0 rfl 0 rfl ?_
  refine v_get C 0 (kf := 5) rfl rfl (by decide) inX6_isOld_6 lkX6_isOld_24 rfl rfl dX6_isOld_1 ?_
  refine v_iload_n C dX6_isOld_4 rfl 2 rfl ?_
  refine v_lald C 4 (d0) rfl rfl (by omega) (by decide) dX6_isOld_5 ?_
  refine v_aload_n C dX6_isOld_6 rfl 0 rfl ?_
  refine v_get C 0 (kf := 6) rfl rfl (by decide) inX6_isOld_6 lkX6_isOld_28 rfl rfl dX6_isOld_7 ?_
  refine v_iload_n C dX6_isOld_10 rfl 2 rfl ?_
  refine v_lald C 5 (d0) rfl rfl (by omega) (by decide) dX6_isOld_11 ?_
  refine v_iload_n C dX6_isOld_12 rfl 1 rfl ?_
  refine v_invSI C (As := [.long (loM (An (d0))), .long (hiM (An (d0))), .int (iI ((c0 : Nat) : Int))]) (kX6_has l g  (S := An (d0)) (n := c0) (by omega) (hAn _)) (cwS 3 C.2.2.2.2.1 gX6_isOld_X6_has rfl rfl rfl (by decide +kernel) ⟨Nat.le_of_ble_eq_true rfl, Nat.le_of_ble_eq_true rfl⟩) [wMM g mm b1 b2 b3 b4 b5 b6 b7 b8 b9 b10 b11 b12 b13 b14 b15 b16 b17 kinds ni cm first second An An Tm Tm bc hds tgs qc qi qo qs cn vals Nw Nw Kw Kw cd] [] [0] [] (fun _ => [wMM g mm b1 b2 b3 b4 b5 b6 b7 b8 b9 b10 b11 b12 b13 b14 b15 b16 b17 kinds ni cm first second An An Tm Tm bc hds tgs qc qi qo qs cn vals Nw Nw Kw Kw cd]) (fun _ => wMM g mm b1 b2 b3 b4 b5 b6 b7 b8 b9 b10 b11 b12 b13 b14 b15 b16 b17 kinds ni cm first second An An Tm Tm bc hds tgs qc qi qo qs cn vals Nw Nw Kw Kw cd ++ ([])) rfl rfl rfl (fun _ => rfl) (fun _ => rfl) (fun _ => rfl) (fun _ => rfl) rfl rfl (Nat.le_of_ble_eq_true rfl) dX6_isOld_13 ⟨by decide, by decide⟩ (fun r_2 _ h_1 => ?_)
  subst h_1
  exact (v_zret C hr hl () (bZ_nar _) (by decide) (by decide) rfl rfl dX6_isOld_16)
theorem gsh_min {An : Nat → Nat} {cm c d : Nat} (h : AO An cm) (hc : c < cm) (hd : d < cm) : gsh (An c &&& An d) (min c d) = gsh (An c &&& An d) c := by
  have key : ∀ n, d ≤ n → gsh (An c &&& An d) n = gsh (An c &&& An d) d := by
    intro n hn
    obtain ⟨e, rfl⟩ : ∃ e, n = d + e := ⟨n - d, by omega⟩
    clear hn
    induction e with
    | zero => rfl
    | succ e ih =>
      rw [gsh_f (by omega) (show (An c &&& An d).testBit (d + (e + 1)) = false by
        rw [Nat.testBit_and]
        cases q : (An d).testBit (d + (e + 1)) with
        | false => rw [Bool.and_false]
        | true => have := (h d hd).2.2 _ q; omega)]
      exact ih
  rcases Nat.le_total c d with q | q
  · rw [Nat.min_eq_left q]
  · rw [Nat.min_eq_right q, key c q]
theorem gsh_hit {S n : Nat} (h : S.testBit n = true) : gsh S n = n := by
  by_cases e : n = 0
  · subst e; rfl
  · exact gsh_t (by omega) h
set_option maxHeartbeats 4000000 in
set_option maxRecDepth 100000 in
theorem kX6_baseOf (l : Launch) (g : vG) {mm b1 b2 b3 b4 b5 b6 b7 b8 b9 b10 b11 b12 b13 b14 b15 b16 b17 : Nat} {kinds tgs first second vals qs : Nat → Int} {hds An qi qo Tm Nw Kw ris : Nat → Nat} {ni bc cm cn qc cd : Nat} {c0 d0 : Nat} (hI : MI vals ris cn kinds tgs first second qs hds An qi qo Tm ni bc cm qc) (hc0 : c0 < cm) (hd0 : d0 < cm) : mI l g yX6_baseOf wsX6_baseOf ({ frames := 2, cells := 0, slots := 0, locals := 46 }) [.ref (mm), .int (iI ((c0 : Nat) : Int)), .int (iI ((d0 : Nat) : Int))] (wMM g mm b1 b2 b3 b4 b5 b6 b7 b8 b9 b10 b11 b12 b13 b14 b15 b16 b17 kinds ni cm first second An An Tm Tm bc hds tgs qc qi qo qs cn vals Nw Nw Kw Kw cd ++ ([])) (fun _ : Unit => wMM g mm b1 b2 b3 b4 b5 b6 b7 b8 b9 b10 b11 b12 b13 b14 b15 b16 b17 kinds ni cm first second An An Tm Tm bc hds tgs qc qi qo qs cn vals Nw Nw Kw Kw cd ++ ([])) (fun v _ => v = iI ((gsh (An c0 &&& An d0) (min c0 d0) : Nat) : Int)) 0 0 := by
  refine mI_of (cc := cX6_baseOf) (maxL := 4) (ret := (some .int)) (own := RX6) (by decide) rfl rfl (Nat.le_of_ble_eq_true rfl) ?_
  intro p e s m args below meth c A C hr hl hin
  obtain ⟨hni, hbc1, hbc, hcm1, hcm, hcn1, hnm, hqc, hhd, htg, hf, hs, hfc, hsc, hAn, hTm, hao, hpal, hqb, hqi, htk, hkd⟩ := id hI
  refine v_iload_n C dX6_baseOf_0 rfl 1 rfl ?_
  refine v_istore_n C [(3, .int (iI ((c0 : Nat) : Int))), (0, .ref (mm)), (1, .int (iI ((c0 : Nat) : Int))), (2, .int (iI ((d0 : Nat) : Int)))] dX6_baseOf_1 rfl (by decide) rfl ?_
  refine v_lv (lv' := [(0, .ref (mm)), (1, .int (iI ((c0 : Nat) : Int))), (2, .int (iI ((d0 : Nat) : Int))), (3, .int (iI ((c0 : Nat) : Int)))]) [1, 2, 3, 0] rfl ?_
  refine v_lp1 (X := Nat) (fun q => wMM g mm b1 b2 b3 b4 b5 b6 b7 b8 b9 b10 b11 b12 b13 b14 b15 b16 b17 kinds ni cm first second An An Tm Tm bc hds tgs qc qi qo qs cn vals Nw Nw Kw Kw cd ++ ([])) (fun q => [(0, .ref (mm)), (1, .int (iI ((c0 : Nat) : Int))), (2, .int (iI ((d0 : Nat) : Int))), (3, .int (iI ((q : Nat) : Int)))]) (fun q => q) (fun q => q ≤ c0 ∧ gsh (An c0 &&& An d0) (min c0 d0) = gsh (An c0 &&& An d0) q) ?_ (c0) ⟨Nat.le_refl _, gsh_min hao hc0 hd0⟩
  intro q hJ2 ih2
  try dsimp only at hJ2 ⊢
  refine v_aload_n C dX6_baseOf_2 rfl 0 rfl ?_
  refine v_iload_n C dX6_baseOf_3 rfl 3 rfl ?_
  refine v_iload_n C dX6_baseOf_4 rfl 1 rfl ?_
  refine v_invVI C (As := [.int (iI ((q : Nat) : Int)), .int (iI ((c0 : Nat) : Int))]) (q0 := 0) (ci := 6) (kX6_isOld l g (mm := mm) (b1 := b1) (b2 := b2) (b3 := b3) (b4 := b4) (b5 := b5) (b6 := b6) (b7 := b7) (b8 := b8) (b9 := b9) (b10 := b10) (b11 := b11) (b12 := b12) (b13 := b13) (b14 := b14) (b15 := b15) (b16 := b16) (b17 := b17) (kinds := kinds) (tgs := tgs) (first := first) (second := second) (vals := vals) (qs := qs) (hds := hds) (An := An) (qi := qi) (qo := qo) (Tm := Tm) (Nw := Nw) (Kw := Kw) (ni := ni) (bc := bc) (cm := cm) (cn := cn) (qc := qc) (cd := cd) (ris := ris) (c0 := q) (d0 := c0) (by omega) (by omega) hAn) (cwV 2 C.2.2.2.2.1 gX6_baseOf_X6_isOld rfl rfl rfl (by decide +kernel) ⟨Nat.le_of_ble_eq_true rfl, Nat.le_of_ble_eq_true rfl⟩) [wMM g mm b1 b2 b3 b4 b5 b6 b7 b8 b9 b10 b11 b12 b13 b14 b15 b16 b17 kinds ni cm first second An An Tm Tm bc hds tgs qc qi qo qs cn vals Nw Nw Kw Kw cd] [0] [] [] (fun _ => [wMM g mm b1 b2 b3 b4 b5 b6 b7 b8 b9 b10 b11 b12 b13 b14 b15 b16 b17 kinds ni cm first second An An Tm Tm bc hds tgs qc qi qo qs cn vals Nw Nw Kw Kw cd]) (fun _ => wMM g mm b1 b2 b3 b4 b5 b6 b7 b8 b9 b10 b11 b12 b13 b14 b15 b16 b17 kinds ni cm first second An An Tm Tm bc hds tgs qc qi qo qs cn vals Nw Nw Kw Kw cd ++ ([])) rfl rfl rfl (fun _ => rfl) (fun _ => rfl) (fun _ => rfl) (fun _ => rfl) rfl rfl rfl rfl rfl (Nat.le_of_ble_eq_true rfl) dX6_baseOf_5 ⟨by decide, by decide⟩ (fun r_2 _ h_1 => ?_)
  subst h_1
  refine v_ifz_eq C 20 dX6_baseOf_8 (by decide) (fun c_3 => ?_) (fun c_3 => ?_)
  ·
    have hq0 : 0 < q := by
      rcases Nat.eq_zero_or_pos q with h9 | h9
      · rw [h9, (hao c0 hc0).1] at c_3; exact Bool.noConfusion c_3
      · exact h9
    refine v_iinc C [(3, .int (iI (((q : Nat) : Int) + (-1)))), (0, .ref (mm)), (1, .int (iI ((c0 : Nat) : Int))), (2, .int (iI ((d0 : Nat) : Int)))] dX6_baseOf_20 3 rfl (by decide) rfl ?_
    refine v_goto C 2 dX6_baseOf_23 (by decide) ?_
    refine v_lv (lv' := [(0, .ref (mm)), (1, .int (iI ((c0 : Nat) : Int))), (2, .int (iI ((d0 : Nat) : Int))), (3, .int (iI (((q : Nat) : Int) + (-1))))]) [1, 2, 3, 0] rfl ?_
    rw [show ((q : Nat) : Int) + (-1) = ((q - 1 : Nat) : Int) from (by omega)]
    exact ih2 (q - 1) ⟨by omega, by rw [hJ2.2]; exact gsh_f hq0 (by rw [Nat.testBit_and, c_3, Bool.false_and])⟩ (by omega)
  ·
    refine v_aload_n C dX6_baseOf_11 rfl 0 rfl ?_
    refine v_iload_n C dX6_baseOf_12 rfl 3 rfl ?_
    refine v_iload_n C dX6_baseOf_13 rfl 2 rfl ?_
    refine v_invVI C (As := [.int (iI ((q : Nat) : Int)), .int (iI ((d0 : Nat) : Int))]) (q0 := 0) (ci := 6) (kX6_isOld l g (mm := mm) (b1 := b1) (b2 := b2) (b3 := b3) (b4 := b4) (b5 := b5) (b6 := b6) (b7 := b7) (b8 := b8) (b9 := b9) (b10 := b10) (b11 := b11) (b12 := b12) (b13 := b13) (b14 := b14) (b15 := b15) (b16 := b16) (b17 := b17) (kinds := kinds) (tgs := tgs) (first := first) (second := second) (vals := vals) (qs := qs) (hds := hds) (An := An) (qi := qi) (qo := qo) (Tm := Tm) (Nw := Nw) (Kw := Kw) (ni := ni) (bc := bc) (cm := cm) (cn := cn) (qc := qc) (cd := cd) (ris := ris) (c0 := q) (d0 := d0) (by omega) (by omega) hAn) (cwV 2 C.2.2.2.2.1 gX6_baseOf_X6_isOld rfl rfl rfl (by decide +kernel) ⟨Nat.le_of_ble_eq_true rfl, Nat.le_of_ble_eq_true rfl⟩) [wMM g mm b1 b2 b3 b4 b5 b6 b7 b8 b9 b10 b11 b12 b13 b14 b15 b16 b17 kinds ni cm first second An An Tm Tm bc hds tgs qc qi qo qs cn vals Nw Nw Kw Kw cd] [0] [] [] (fun _ => [wMM g mm b1 b2 b3 b4 b5 b6 b7 b8 b9 b10 b11 b12 b13 b14 b15 b16 b17 kinds ni cm first second An An Tm Tm bc hds tgs qc qi qo qs cn vals Nw Nw Kw Kw cd]) (fun _ => wMM g mm b1 b2 b3 b4 b5 b6 b7 b8 b9 b10 b11 b12 b13 b14 b15 b16 b17 kinds ni cm first second An An Tm Tm bc hds tgs qc qi qo qs cn vals Nw Nw Kw Kw cd ++ ([])) rfl rfl rfl (fun _ => rfl) (fun _ => rfl) (fun _ => rfl) (fun _ => rfl) rfl rfl rfl rfl rfl (Nat.le_of_ble_eq_true rfl) dX6_baseOf_14 ⟨by decide, by decide⟩ (fun r_5 _ h_4 => ?_)
    subst h_4
    refine v_ifz_ne C 26 dX6_baseOf_17 (by decide) (fun c_6 => ?_) (fun c_6 => ?_)
    ·
      refine v_iload_n C dX6_baseOf_26 rfl 3 rfl ?_
      exact (v_iret C hr hl () (by decide) (by decide) rfl (congrArg (fun z : Nat => iI (z : Int)) (by rw [hJ2.2, gsh_hit (by rw [Nat.testBit_and, c_3, c_6]; rfl)])) dX6_baseOf_27)
    ·
      have hq0 : 0 < q := by
        rcases Nat.eq_zero_or_pos q with h9 | h9
        · rw [h9, (hao d0 hd0).1] at c_6; exact Bool.noConfusion c_6
        · exact h9
      refine v_iinc C [(3, .int (iI (((q : Nat) : Int) + (-1)))), (0, .ref (mm)), (1, .int (iI ((c0 : Nat) : Int))), (2, .int (iI ((d0 : Nat) : Int)))] dX6_baseOf_20 3 rfl (by decide) rfl ?_
      refine v_goto C 2 dX6_baseOf_23 (by decide) ?_
      refine v_lv (lv' := [(0, .ref (mm)), (1, .int (iI ((c0 : Nat) : Int))), (2, .int (iI ((d0 : Nat) : Int))), (3, .int (iI (((q : Nat) : Int) + (-1))))]) [1, 2, 3, 0] rfl ?_
      rw [show ((q : Nat) : Int) + (-1) = ((q - 1 : Nat) : Int) from (by omega)]
      exact ih2 (q - 1) ⟨by omega, by rw [hJ2.2]; exact gsh_f hq0 (by rw [Nat.testBit_and, c_6, Bool.and_false])⟩ (by omega)
