abbrev wQuo (g : vG) (a : Nat) (it : Nat) (ot : Nat) (sh : Nat) (qi : Nat → Nat) (qo : Nat → Nat) (qs : Nat → Int) (qc : Nat) : va_W := [cO a 2 [.ref (it), .ref (ot), .ref (sh), .int (iI ((qc : Nat) : Int))], cIn g it 10 qi, cIn g ot 10 qo, cI g sh 10 qs]
abbrev wLog (g : vG) (a : Nat) (dd : Nat) (f1 : Nat) (f2 : Nat) (li : Nat) (ls : Nat) (lp : Nat) (lq : Nat) (al : Nat) (ah : Nat) (deed : Nat → Nat) (first : Nat → Int) (second : Nat → Int) (item : Nat → Nat) (side : Nat → Nat) (picked : Nat → Nat) (qcnt : Nat → Nat) (U : Nat → Nat) (W : Nat → Nat) (cm : Nat) : va_W := [cO a 0 [.ref (dd), .ref (f1), .ref (f2), .ref (li), .ref (ls), .ref (lp), .ref (lq), .ref (al), .ref (ah), .int (iI ((cm : Nat) : Int))], cIn g dd 100 deed, cI g f1 100 first, cI g f2 100 second, cIn g li 100 item, cIn g ls 100 side, cIn g lp 100 picked, cIn g lq 100 qcnt, cL g al 100 (xl U), cL g ah 100 (xh W)]
abbrev wScr (g : vG) (a : Nat) (lg : Nat) (qt : Nat) : va_W := [cO a 3 [.ref (lg), .ref (qt)]]
/-- how a quote stands between two sets: 0 whole, 1 broken, 2 open -/
def qst (vals : Nat → Int) (cn : Nat) (sh : Int) (a b : Nat) : Nat := if 1 < cnt a ∨ 1 < cnt b then 2 else if lone a vals cn = -1000 ∨ lone b vals cn = -1000 then (if lone a vals cn = lone b vals cn then 0 else 1) else if lone a vals cn - lone b vals cn = sh then 0 else 1
theorem qst_le (vals : Nat → Int) (cn : Nat) (sh : Int) (a b : Nat) : qst vals cn sh a b ≤ 2 := by
  unfold qst
  repeat' split
  all_goals omega
theorem qst31 (vals : Nat → Int) (cn : Nat) (sh : Int) (a b : Nat) : b31 ((qst vals cn sh a b : Nat) : Int) := ⟨by have := qst_le vals cn sh a b; omega, by have := qst_le vals cn sh a b; omega⟩
theorem inX2_add_2 : ∀ w ∈ u_ws RX2 TX2 4, w ∈ wsX2_add := by decide +kernel
theorem lkX2_add_9 : Cond.fieldLink RX2 9 "MergeAtelier$Quotes" "items" "[I" ∈ wsX2_add := by decide +kernel
theorem lkX2_add_21 : Cond.fieldLink RX2 21 "MergeAtelier$Quotes" "count" "I" ∈ wsX2_add := by decide +kernel
theorem lkX2_add_15 : Cond.fieldLink RX2 15 "MergeAtelier$Quotes" "others" "[I" ∈ wsX2_add := by decide +kernel
theorem lkX2_add_18 : Cond.fieldLink RX2 18 "MergeAtelier$Quotes" "shifts" "[I" ∈ wsX2_add := by decide +kernel
set_option maxHeartbeats 4000000 in
set_option maxRecDepth 100000 in
theorem kX2_add (l : Launch) (g : vG) {qa : Nat} {q1 q2 q3 : Nat} {qi qo : Nat → Nat} {qs : Nat → Int} {qc : Nat} {i0 i1 : Nat} {x : Int} (hqc : qc < 10) : mI l g yX2_add wsX2_add ({ frames := 0, cells := 0, slots := 0, locals := 0 }) [.ref (qa), .int (iI ((i0 : Nat) : Int)), .int (iI ((i1 : Nat) : Int)), .int (iI (x))] (wQuo g qa q1 q2 q3 qi qo qs qc ++ ([])) (fun _ : Unit => wQuo g qa q1 q2 q3 (updN qi (qc) (i0)) (updN qo (qc) (i1)) (updZ qs (qc) (x)) (qc + 1) ++ ([])) (fun v _ => v = iI ((qc : Nat) : Int)) 0 0 := by
  refine mI_of (cc := cX2_add) (maxL := 4) (ret := (some .int)) (own := RX2) (by decide) rfl rfl (Nat.le_of_ble_eq_true rfl) ?_
  intro p e s m args below meth c A C hr hl hin
  refine v_aload_n C dX2_add_0 rfl 0 rfl ?_
  refine v_get C 0 (kf := 0) rfl rfl (by decide) inX2_add_2 lkX2_add_9 rfl rfl dX2_add_1 ?_
  refine v_aload_n C dX2_add_4 rfl 0 rfl ?_
  refine v_get C 0 (kf := 3) rfl rfl (by decide) inX2_add_2 lkX2_add_21 rfl rfl dX2_add_5 ?_
  refine v_iload_n C dX2_add_8 rfl 1 rfl ?_
  refine v_iastn C 1 (qc) (wQuo g qa q1 q2 q3 (updN qi (qc) (i0)) qo qs qc ++ ([])) rfl rfl (by omega) (by decide) dX2_add_9 rfl ?_
  refine v_aload_n C dX2_add_10 rfl 0 rfl ?_
  refine v_get C 0 (kf := 1) rfl rfl (by decide) inX2_add_2 lkX2_add_15 rfl rfl dX2_add_11 ?_
  refine v_aload_n C dX2_add_14 rfl 0 rfl ?_
  refine v_get C 0 (kf := 3) rfl rfl (by decide) inX2_add_2 lkX2_add_21 rfl rfl dX2_add_15 ?_
  refine v_iload_n C dX2_add_18 rfl 2 rfl ?_
  refine v_iastn C 2 (qc) (wQuo g qa q1 q2 q3 (updN qi (qc) (i0)) (updN qo (qc) (i1)) qs qc ++ ([])) rfl rfl (by omega) (by decide) dX2_add_19 rfl ?_
  refine v_aload_n C dX2_add_20 rfl 0 rfl ?_
  refine v_get C 0 (kf := 2) rfl rfl (by decide) inX2_add_2 lkX2_add_18 rfl rfl dX2_add_21 ?_
  refine v_aload_n C dX2_add_24 rfl 0 rfl ?_
  refine v_get C 0 (kf := 3) rfl rfl (by decide) inX2_add_2 lkX2_add_21 rfl rfl dX2_add_25 ?_
  refine v_iload_n C dX2_add_28 rfl 3 rfl ?_
  refine v_iast C 3 (qc) (wQuo g qa q1 q2 q3 (updN qi (qc) (i0)) (updN qo (qc) (i1)) (updZ qs (qc) (x)) qc ++ ([])) rfl rfl (by omega) (by decide) dX2_add_29 rfl ?_
  refine v_aload_n C dX2_add_30 rfl 0 rfl ?_
  refine v_dup C dX2_add_31 rfl ?_
  refine v_get C 0 (kf := 3) rfl rfl (by decide) inX2_add_2 lkX2_add_21 rfl rfl dX2_add_32 ?_
  refine v_iconst C (z := 1) dX2_add_35 ?_
  refine v_iadd C dX2_add_36 ?_
  rw [show (((qc : Nat) : Int)) + 1 = ((qc + 1 : Nat) : Int) from rfl]
  refine v_put C 0 (kf := 3) (wQuo g qa q1 q2 q3 (updN qi (qc) (i0)) (updN qo (qc) (i1)) (updZ qs (qc) (x)) (qc + 1) ++ ([])) rfl rfl (by decide) inX2_add_2 lkX2_add_21 rfl tyX2_ok nmX2 rfl rfl rfl (Nat.le_of_ble_eq_true rfl) dX2_add_37 rfl ?_
  refine v_aload_n C dX2_add_40 rfl 0 rfl ?_
  refine v_get C 0 (kf := 3) rfl rfl (by decide) inX2_add_2 lkX2_add_21 rfl rfl dX2_add_41 ?_
  refine v_iconst C (z := 1) dX2_add_44 ?_
  refine v_isub C dX2_add_45 ?_
  exact (v_iret C hr hl () (by decide) (by decide) rfl (congrArg iI (by omega)) dX2_add_46)
theorem inX2_stateIn_2 : ∀ w ∈ u_ws RX2 TX2 4, w ∈ wsX2_stateIn := by decide +kernel
theorem lkX2_stateIn_9 : Cond.fieldLink RX2 9 "MergeAtelier$Quotes" "items" "[I" ∈ wsX2_stateIn := by decide +kernel
theorem lkX2_stateIn_15 : Cond.fieldLink RX2 15 "MergeAtelier$Quotes" "others" "[I" ∈ wsX2_stateIn := by decide +kernel
theorem lkX2_stateIn_18 : Cond.fieldLink RX2 18 "MergeAtelier$Quotes" "shifts" "[I" ∈ wsX2_stateIn := by decide +kernel
set_option maxHeartbeats 4000000 in
set_option maxRecDepth 100000 in
theorem kX2_stateIn (l : Launch) (g : vG) {qa : Nat} {q1 q2 q3 : Nat} {qi qo : Nat → Nat} {qs : Nat → Int} {qc : Nat} {ta tp tlo thi : Nat} {T : Nat → Nat} {tv tr : Nat} {vals : Nat → Int} {ris : Nat → Nat} {cn : Nat} {q0 r0 : Nat} (hq0 : q0 < 10) (hr0 : r0 < 102) (hcn : cn ≤ 100) (hqb : ∀ k, k < 10 → qi k < 12 ∧ qo k < 12 ∧ -99 ≤ qs k ∧ qs k ≤ 99) (hv : ∀ k, -1000 ≤ vals k ∧ vals k ≤ 999) : mI l g yX2_stateIn wsX2_stateIn ({ frames := 2, cells := 0, slots := 0, locals := 48 }) [.ref (qa), .int (iI ((q0 : Nat) : Int)), .ref (ta), .int (iI ((r0 : Nat) : Int))] (wQuo g qa q1 q2 q3 qi qo qs qc ++ (wTab g ta tp tlo thi T T ++ (wPal g tp tv tr vals ris cn ++ ([])))) (fun _ : Unit => wQuo g qa q1 q2 q3 qi qo qs qc ++ (wTab g ta tp tlo thi T T ++ (wPal g tp tv tr vals ris cn ++ ([])))) (fun v _ => v = iI ((qst vals cn (qs q0) (T (12 * r0 + qi q0)) (T (12 * r0 + qo q0)) : Nat) : Int)) 0 0 := by
  refine mI_of (cc := cX2_stateIn) (maxL := 8) (ret := (some .int)) (own := RX2) (by decide) rfl rfl (Nat.le_of_ble_eq_true rfl) ?_
  intro p e s m args below meth c A C hr hl hin
  obtain ⟨hb1, hb2, hb3, hb4⟩ := hqb q0 hq0
  have hc1 := cnt_le (T (12 * r0 + qi q0))
  have hc2 := cnt_le (T (12 * r0 + qo q0))
  have hl1 := lone_bd hv (T (12 * r0 + qi q0)) cn
  have hl2 := lone_bd hv (T (12 * r0 + qo q0)) cn
  refine v_aload_n C dX2_stateIn_0 rfl 0 rfl ?_
  refine v_get C 0 (kf := 0) rfl rfl (by decide) inX2_stateIn_2 lkX2_stateIn_9 rfl rfl dX2_stateIn_1 ?_
  refine v_iload_n C dX2_stateIn_4 rfl 1 rfl ?_
  refine v_ialdn C 1 (q0) rfl rfl (by omega) (by decide) dX2_stateIn_5 ?_
  refine v_istore C [(4, .int (iI ((qi (q0) : Nat) : Int))), (0, .ref (qa)), (1, .int (iI ((q0 : Nat) : Int))), (2, .ref (ta)), (3, .int (iI ((r0 : Nat) : Int)))] dX2_stateIn_6 (by decide) rfl ?_
  refine v_aload_n C dX2_stateIn_8 rfl 1 rfl ?_
  refine v_get C 0 (kf := 1) rfl rfl (by decide) inX2_stateIn_2 lkX2_stateIn_15 rfl rfl dX2_stateIn_9 ?_
  refine v_iload_n C dX2_stateIn_12 rfl 2 rfl ?_
  refine v_ialdn C 2 (q0) rfl rfl (by omega) (by decide) dX2_stateIn_13 ?_
  refine v_istore C [(5, .int (iI ((qo (q0) : Nat) : Int))), (4, .int (iI ((qi (q0) : Nat) : Int))), (0, .ref (qa)), (1, .int (iI ((q0 : Nat) : Int))), (2, .ref (ta)), (3, .int (iI ((r0 : Nat) : Int)))] dX2_stateIn_14 (by decide) rfl ?_
  refine v_aload_n C dX2_stateIn_16 rfl 4 rfl ?_
  refine v_iload_n C dX2_stateIn_17 rfl 5 rfl ?_
  refine v_iload C dX2_stateIn_18 1 rfl ?_
  refine v_invVI C (As := [.int (iI ((r0 : Nat) : Int)), .int (iI ((qi (q0) : Nat) : Int))]) (q0 := 0) (ci := 4) (kX4_sideCount l g (ta := ta) (tp := tp) (tlo := tlo) (thi := thi) (T := T) (r0 := r0) (i0 := qi (q0)) (by omega) (by omega)) (cwV 2 C.2.2.2.2.1 gX2_stateIn_X4_sideCount rfl rfl rfl (by decide +kernel) ⟨Nat.le_of_ble_eq_true rfl, Nat.le_of_ble_eq_true rfl⟩) [wQuo g qa q1 q2 q3 qi qo qs qc, wTab g ta tp tlo thi T T, wPal g tp tv tr vals ris cn] [1] [0, 2] [] (fun _ => [wQuo g qa q1 q2 q3 qi qo qs qc, wTab g ta tp tlo thi T T, wPal g tp tv tr vals ris cn]) (fun _ => wQuo g qa q1 q2 q3 qi qo qs qc ++ (wTab g ta tp tlo thi T T ++ (wPal g tp tv tr vals ris cn ++ ([])))) rfl rfl rfl (fun _ => rfl) (fun _ => rfl) (fun _ => rfl) (fun _ => rfl) rfl rfl rfl rfl rfl (Nat.le_of_ble_eq_true rfl) dX2_stateIn_20 ⟨by decide, by decide⟩ (fun r_2 _ h_1 => ?_)
  subst h_1
  refine v_iconst C (z := 1) dX2_stateIn_23 ?_
  refine v_icmp_gt C 38 dX2_stateIn_24 (by decide) (cnt31 _) (b31_lit _ rfl) (fun c_3 => ?_) (fun c_3 => ?_)
  ·
    refine v_iconst C (z := 2) dX2_stateIn_38 ?_
    exact (v_iret C hr hl () (by decide) (by decide) rfl (congrArg iI (by unfold qst; rw [if_pos (Or.inl (by omega))]; rfl)) dX2_stateIn_39)
  ·
    refine v_aload_n C dX2_stateIn_27 rfl 4 rfl ?_
    refine v_iload_n C dX2_stateIn_28 rfl 5 rfl ?_
    refine v_iload C dX2_stateIn_29 0 rfl ?_
    refine v_invVI C (As := [.int (iI ((r0 : Nat) : Int)), .int (iI ((qo (q0) : Nat) : Int))]) (q0 := 0) (ci := 4) (kX4_sideCount l g (ta := ta) (tp := tp) (tlo := tlo) (thi := thi) (T := T) (r0 := r0) (i0 := qo (q0)) (by omega) (by omega)) (cwV 2 C.2.2.2.2.1 gX2_stateIn_X4_sideCount rfl rfl rfl (by decide +kernel) ⟨Nat.le_of_ble_eq_true rfl, Nat.le_of_ble_eq_true rfl⟩) [wQuo g qa q1 q2 q3 qi qo qs qc, wTab g ta tp tlo thi T T, wPal g tp tv tr vals ris cn] [1] [0, 2] [] (fun _ => [wQuo g qa q1 q2 q3 qi qo qs qc, wTab g ta tp tlo thi T T, wPal g tp tv tr vals ris cn]) (fun _ => wQuo g qa q1 q2 q3 qi qo qs qc ++ (wTab g ta tp tlo thi T T ++ (wPal g tp tv tr vals ris cn ++ ([])))) rfl rfl rfl (fun _ => rfl) (fun _ => rfl) (fun _ => rfl) (fun _ => rfl) rfl rfl rfl rfl rfl (Nat.le_of_ble_eq_true rfl) dX2_stateIn_31 ⟨by decide, by decide⟩ (fun r_5 _ h_4 => ?_)
    subst h_4
    refine v_iconst C (z := 1) dX2_stateIn_34 ?_
    refine v_icmp_le C 40 dX2_stateIn_35 (by decide) (cnt31 _) (b31_lit _ rfl) (fun c_6 => ?_) (fun c_6 => ?_)
    ·
      refine v_aload_n C dX2_stateIn_40 rfl 4 rfl ?_
      refine v_iload_n C dX2_stateIn_41 rfl 5 rfl ?_
      refine v_iload C dX2_stateIn_42 1 rfl ?_
      refine v_invVI C (As := [.int (iI ((r0 : Nat) : Int)), .int (iI ((qi (q0) : Nat) : Int))]) (q0 := 0) (ci := 4) (kX4_loneValue l g (ta := ta) (tp := tp) (tlo := tlo) (thi := thi) (T := T) (tv := tv) (tr := tr) (vals := vals) (ris := ris) (cn := cn) (r0 := r0) (i0 := qi (q0)) (by omega) (by omega) (by omega)) (cwV 2 C.2.2.2.2.1 gX2_stateIn_X4_loneValue rfl rfl rfl (by decide +kernel) ⟨Nat.le_of_ble_eq_true rfl, Nat.le_of_ble_eq_true rfl⟩) [wQuo g qa q1 q2 q3 qi qo qs qc, wTab g ta tp tlo thi T T, wPal g tp tv tr vals ris cn] [1, 2] [0] [] (fun _ => [wQuo g qa q1 q2 q3 qi qo qs qc, wTab g ta tp tlo thi T T, wPal g tp tv tr vals ris cn]) (fun _ => wQuo g qa q1 q2 q3 qi qo qs qc ++ (wTab g ta tp tlo thi T T ++ (wPal g tp tv tr vals ris cn ++ ([])))) rfl rfl rfl (fun _ => rfl) (fun _ => rfl) (fun _ => rfl) (fun _ => rfl) rfl rfl rfl rfl rfl (Nat.le_of_ble_eq_true rfl) dX2_stateIn_44 ⟨by decide, by decide⟩ (fun r_8 _ h_7 => ?_)
      subst h_7
      refine v_istore C [(6, .int (iI (lone (T (12 * r0 + (qi (q0)))) vals cn))), (5, .int (iI ((qo (q0) : Nat) : Int))), (4, .int (iI ((qi (q0) : Nat) : Int))), (0, .ref (qa)), (1, .int (iI ((q0 : Nat) : Int))), (2, .ref (ta)), (3, .int (iI ((r0 : Nat) : Int)))] dX2_stateIn_47 (by decide) rfl ?_
      refine v_aload_n C dX2_stateIn_49 rfl 5 rfl ?_
      refine v_iload_n C dX2_stateIn_50 rfl 6 rfl ?_
      refine v_iload C dX2_stateIn_51 1 rfl ?_
      refine v_invVI C (As := [.int (iI ((r0 : Nat) : Int)), .int (iI ((qo (q0) : Nat) : Int))]) (q0 := 0) (ci := 4) (kX4_loneValue l g (ta := ta) (tp := tp) (tlo := tlo) (thi := thi) (T := T) (tv := tv) (tr := tr) (vals := vals) (ris := ris) (cn := cn) (r0 := r0) (i0 := qo (q0)) (by omega) (by omega) (by omega)) (cwV 2 C.2.2.2.2.1 gX2_stateIn_X4_loneValue rfl rfl rfl (by decide +kernel) ⟨Nat.le_of_ble_eq_true rfl, Nat.le_of_ble_eq_true rfl⟩) [wQuo g qa q1 q2 q3 qi qo qs qc, wTab g ta tp tlo thi T T, wPal g tp tv tr vals ris cn] [1, 2] [0] [] (fun _ => [wQuo g qa q1 q2 q3 qi qo qs qc, wTab g ta tp tlo thi T T, wPal g tp tv tr vals ris cn]) (fun _ => wQuo g qa q1 q2 q3 qi qo qs qc ++ (wTab g ta tp tlo thi T T ++ (wPal g tp tv tr vals ris cn ++ ([])))) rfl rfl rfl (fun _ => rfl) (fun _ => rfl) (fun _ => rfl) (fun _ => rfl) rfl rfl rfl rfl rfl (Nat.le_of_ble_eq_true rfl) dX2_stateIn_53 ⟨by decide, by decide⟩ (fun r_10 _ h_9 => ?_)
      subst h_9
      refine v_istore C [(7, .int (iI (lone (T (12 * r0 + (qo (q0)))) vals cn))), (6, .int (iI (lone (T (12 * r0 + (qi (q0)))) vals cn))), (5, .int (iI ((qo (q0) : Nat) : Int))), (4, .int (iI ((qi (q0) : Nat) : Int))), (0, .ref (qa)), (1, .int (iI ((q0 : Nat) : Int))), (2, .ref (ta)), (3, .int (iI ((r0 : Nat) : Int)))] dX2_stateIn_56 (by decide) rfl ?_
      refine v_iload C dX2_stateIn_58 1 rfl ?_
      refine v_sipush C (z := -1000) dX2_stateIn_60 rfl ?_
      refine v_icmp_eq C 74 dX2_stateIn_63 (by decide) ⟨by omega, by omega⟩ (b31_lit _ rfl) (fun c_11 => ?_) (fun c_11 => ?_)
      ·
        refine v_iload C dX2_stateIn_74 1 rfl ?_
        refine v_iload C dX2_stateIn_76 0 rfl ?_
        refine v_icmp_ne C 85 dX2_stateIn_78 (by decide) ⟨by omega, by omega⟩ ⟨by omega, by omega⟩ (fun c_12 => ?_) (fun c_12 => ?_)
        ·
          refine v_iconst C (z := 1) dX2_stateIn_85 ?_
          exact (v_iret C hr hl () (by decide) (by decide) rfl (congrArg iI (by unfold qst; rw [if_neg (by omega), if_pos (Or.inl c_11), if_neg c_12]; rfl)) dX2_stateIn_86)
        ·
          refine v_iconst C (z := 0) dX2_stateIn_81 ?_
          refine v_goto C 86 dX2_stateIn_82 (by decide) ?_
          exact (v_iret C hr hl () (by decide) (by decide) rfl (congrArg iI (by unfold qst; rw [if_neg (by omega), if_pos (Or.inl c_11), if_pos c_12]; rfl)) dX2_stateIn_86)
      ·
        refine v_iload C dX2_stateIn_66 0 rfl ?_
        refine v_sipush C (z := -1000) dX2_stateIn_68 rfl ?_
        refine v_icmp_ne C 87 dX2_stateIn_71 (by decide) ⟨by omega, by omega⟩ (b31_lit _ rfl) (fun c_13 => ?_) (fun c_13 => ?_)
        ·
          refine v_iload C dX2_stateIn_87 1 rfl ?_
          refine v_iload C dX2_stateIn_89 0 rfl ?_
          refine v_isub C dX2_stateIn_91 ?_
          refine v_aload_n C dX2_stateIn_92 rfl 4 rfl ?_
          refine v_get C 0 (kf := 2) rfl rfl (by decide) inX2_stateIn_2 lkX2_stateIn_18 rfl rfl dX2_stateIn_93 ?_
          refine v_iload_n C dX2_stateIn_96 rfl 5 rfl ?_
          refine v_iald C 3 (q0) rfl rfl (by omega) (by decide) dX2_stateIn_97 ?_
          refine v_icmp_ne C 105 dX2_stateIn_98 (by decide) ⟨by omega, by omega⟩ ⟨by omega, by omega⟩ (fun c_14 => ?_) (fun c_14 => ?_)
          ·
            refine v_iconst C (z := 1) dX2_stateIn_105 ?_
            exact (v_iret C hr hl () (by decide) (by decide) rfl (congrArg iI (by unfold qst; rw [if_neg (by omega), if_neg (by omega), if_neg c_14]; rfl)) dX2_stateIn_106)
          ·
            refine v_iconst C (z := 0) dX2_stateIn_101 ?_
            refine v_goto C 106 dX2_stateIn_102 (by decide) ?_
            exact (v_iret C hr hl () (by decide) (by decide) rfl (congrArg iI (by unfold qst; rw [if_neg (by omega), if_neg (by omega), if_pos c_14]; rfl)) dX2_stateIn_106)
        ·
          refine v_iload C dX2_stateIn_74 1 rfl ?_
          refine v_iload C dX2_stateIn_76 0 rfl ?_
          refine v_icmp_ne C 85 dX2_stateIn_78 (by decide) ⟨by omega, by omega⟩ ⟨by omega, by omega⟩ (fun c_15 => ?_) (fun c_15 => ?_)
          ·
            refine v_iconst C (z := 1) dX2_stateIn_85 ?_
            exact (v_iret C hr hl () (by decide) (by decide) rfl (congrArg iI (by unfold qst; rw [if_neg (by omega), if_pos (Or.inr c_13), if_neg c_15]; rfl)) dX2_stateIn_86)
          ·
            refine v_iconst C (z := 0) dX2_stateIn_81 ?_
            refine v_goto C 86 dX2_stateIn_82 (by decide) ?_
            exact (v_iret C hr hl () (by decide) (by decide) rfl (congrArg iI (by unfold qst; rw [if_neg (by omega), if_pos (Or.inr c_13), if_pos c_15]; rfl)) dX2_stateIn_86)
    ·
      refine v_iconst C (z := 2) dX2_stateIn_38 ?_
      exact (v_iret C hr hl () (by decide) (by decide) rfl (congrArg iI (by unfold qst; rw [if_pos (Or.inr (by omega))]; rfl)) dX2_stateIn_39)
