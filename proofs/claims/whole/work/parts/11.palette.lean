/-- how many bits lie below the lowest one of a half -/
def lonew (h : Int64) : Nat := fb_ct (fun j => ((h &&& -h) - lN 1).toBitVec.toNat.testBit j) 64
def loneV (vals : Nat → Int) (cn sd : Nat) : Int := if sd < cn then vals sd else -1000
/-- the value of a set's lowest side -/
def lone (S : Nat) (vals : Nat → Int) (cn : Nat) : Int := if lN S = lN 0 then loneV vals cn (64 + lonew (hN S)) else loneV vals cn (lonew (lN S))
theorem wb_ofN (X : Int64) : lN X.toBitVec.toNat = X := wb_inj (by rw [wb_tb]; simp)
theorem lonew_lo : ∀ n : Nat, n < 64 → lonew (lN (2 ^ n)) = n ∧ ¬ lN (2 ^ n) = lN 0 := by decide +kernel
theorem lonew_hi : ∀ n : Nat, n < 128 → 64 ≤ n → lonew (hN (2 ^ n)) = n - 64 ∧ lN (2 ^ n) = lN 0 := by decide +kernel
theorem lone_pow {n cn : Nat} {vals : Nat → Int} (h : n < 128) (hc : n < cn) : lone (2 ^ n) vals cn = vals n := by
  unfold lone
  rcases Nat.lt_or_ge n 64 with q | q
  · obtain ⟨h1, h2⟩ := lonew_lo n q
    rw [if_neg h2, h1]
    exact if_pos hc
  · obtain ⟨h1, h2⟩ := lonew_hi n h q
    rw [if_pos h2, h1, show 64 + (n - 64) = n by omega]
    exact if_pos hc
theorem loneV_bd {vals : Nat → Int} (hv : ∀ k, -1000 ≤ vals k ∧ vals k ≤ 999) (cn sd : Nat) : -1000 ≤ loneV vals cn sd ∧ loneV vals cn sd ≤ 999 := by
  unfold loneV
  by_cases h : sd < cn
  · rw [if_pos h]; exact hv sd
  · rw [if_neg h]; omega
theorem lone_bd {vals : Nat → Int} (hv : ∀ k, -1000 ≤ vals k ∧ vals k ≤ 999) (S cn : Nat) : -1000 ≤ lone S vals cn ∧ lone S vals cn ≤ 999 := by
  unfold lone
  by_cases h : lN S = lN 0
  · rw [if_pos h]; exact loneV_bd hv _ _
  · rw [if_neg h]; exact loneV_bd hv _ _
theorem lonew_le (h : Int64) : lonew h ≤ 64 := fb_ct_le _ _
/-- the side at an index in the order of sides: the first place in the order that has it -/
def sIx (Z : Nat → Bool) (ris : Nat → Nat) (ix : Int) : Nat → Int
  | 0 => -1
  | n + 1 => if sIx Z ris ix n = -1 then (if Z n = true ∧ ((fb_ct Z n : Nat) : Int) = ix then ((ris n : Nat) : Int) else -1) else sIx Z ris ix n
theorem sIx_hit {Z : Nat → Bool} {ris : Nat → Nat} {ix : Int} {n : Nat} (h : sIx Z ris ix n = -1) (h1 : Z n = true) (h2 : ((fb_ct Z n : Nat) : Int) = ix) : ∀ m, n < m → sIx Z ris ix m = ((ris n : Nat) : Int) := by
  intro m
  induction m with
  | zero => exact fun q => absurd q (Nat.not_lt_zero _)
  | succ m ih =>
    intro q
    rcases Nat.lt_or_ge n m with q2 | q2
    · have e := ih q2
      show (if sIx Z ris ix m = -1 then _ else sIx Z ris ix m) = _
      rw [if_neg (by rw [e]; omega), e]
    · have e : n = m := by omega
      subst e
      show (if sIx Z ris ix n = -1 then _ else sIx Z ris ix n) = _
      rw [if_pos h, if_pos ⟨h1, h2⟩]
theorem sIx_missZ {Z : Nat → Bool} {ris : Nat → Nat} {ix : Int} {n : Nat} (h : sIx Z ris ix n = -1) (h1 : Z n = false) : sIx Z ris ix (n + 1) = -1 := by
  show (if sIx Z ris ix n = -1 then _ else _) = _
  rw [if_pos h, if_neg (by rw [h1]; exact fun x => Bool.noConfusion x.1)]
theorem sIx_missI {Z : Nat → Bool} {ris : Nat → Nat} {ix : Int} {n : Nat} (h : sIx Z ris ix n = -1) (h1 : ¬ ((fb_ct Z n : Nat) : Int) = ix) : sIx Z ris ix (n + 1) = -1 := by
  show (if sIx Z ris ix n = -1 then _ else _) = _
  rw [if_pos h, if_neg (fun x => h1 x.2)]
theorem inX1_numberInOrder_1 : ∀ w ∈ u_ws RX1 TX1 3, w ∈ wsX1_numberInOrder := by decide +kernel
theorem lkX1_numberInOrder_15 : Cond.fieldLink RX1 15 "MergeAtelier$Palette" "risingNumbers" "[I" ∈ wsX1_numberInOrder := by decide +kernel
set_option maxHeartbeats 4000000 in
set_option maxRecDepth 100000 in
theorem kX1_numberInOrder (l : Launch) (g : vG) {ta : Nat} {tv tr : Nat} {vals : Nat → Int} {ris : Nat → Nat} {cn : Nat} {q0 : Nat} (hq0 : q0 < 100) : mI l g yX1_numberInOrder wsX1_numberInOrder ({ frames := 0, cells := 0, slots := 0, locals := 0 }) [.ref (ta), .int (iI ((q0 : Nat) : Int))] (wPal g ta tv tr vals ris cn ++ ([])) (fun _ : Unit => wPal g ta tv tr vals ris cn ++ ([])) (fun v _ => v = iI ((ris q0 : Nat) : Int)) 0 0 := by
  refine mI_of (cc := cX1_numberInOrder) (maxL := 2) (ret := (some .int)) (own := RX1) (by decide) rfl rfl (Nat.le_of_ble_eq_true rfl) ?_
  intro p e s m args below meth c A C hr hl hin
  refine v_aload_n C dX1_numberInOrder_0 rfl 0 rfl ?_
  refine v_get C 0 (kf := 1) rfl rfl (by decide) inX1_numberInOrder_1 lkX1_numberInOrder_15 rfl rfl dX1_numberInOrder_1 ?_
  refine v_iload_n C dX1_numberInOrder_4 rfl 1 rfl ?_
  refine v_ialdn C 2 (q0) rfl rfl (by omega) (by decide) dX1_numberInOrder_5 ?_
  exact (v_iret C hr hl () (by decide) (by decide) rfl rfl dX1_numberInOrder_6)
theorem inX4_loneValue_4 : ∀ w ∈ u_ws RX4 TX4 3, w ∈ wsX4_loneValue := by decide +kernel
theorem lkX4_loneValue_15 : Cond.fieldLink RX4 15 "MergeAtelier$Table" "low" "[J" ∈ wsX4_loneValue := by decide +kernel
theorem lkX4_loneValue_19 : Cond.fieldLink RX4 19 "MergeAtelier$Table" "high" "[J" ∈ wsX4_loneValue := by decide +kernel
theorem lkX4_loneValue_9 : Cond.fieldLink RX4 9 "MergeAtelier$Table" "palette" "LMergeAtelier$Palette;" ∈ wsX4_loneValue := by decide +kernel
theorem inX4_loneValue_1 : ∀ w ∈ u_ws RX1 TX1 3, w ∈ wsX4_loneValue := by decide +kernel
theorem lkX4_loneValue_54 : Cond.fieldLink RX4 54 "MergeAtelier$Palette" "count" "I" ∈ wsX4_loneValue := by decide +kernel
theorem lkX4_loneValue_58 : Cond.fieldLink RX4 58 "MergeAtelier$Palette" "values" "[I" ∈ wsX4_loneValue := by decide +kernel
set_option maxHeartbeats 4000000 in
set_option maxRecDepth 100000 in
theorem kX4_loneValue (l : Launch) (g : vG) {ta tp tlo thi : Nat} {T : Nat → Nat} {tv tr : Nat} {vals : Nat → Int} {ris : Nat → Nat} {cn : Nat} {r0 i0 : Nat} (hr0 : r0 < 102) (hi0 : i0 < 12) (hcn : cn ≤ 100) : mI l g yX4_loneValue wsX4_loneValue ({ frames := 1, cells := 0, slots := 0, locals := 21 }) [.ref (ta), .int (iI ((r0 : Nat) : Int)), .int (iI ((i0 : Nat) : Int))] (wTab g ta tp tlo thi T T ++ (wPal g tp tv tr vals ris cn ++ ([]))) (fun _ : Unit => wTab g ta tp tlo thi T T ++ (wPal g tp tv tr vals ris cn ++ ([]))) (fun v _ => v = iI (lone (T (12 * r0 + i0)) vals cn)) 0 0 := by
  refine mI_of (cc := cX4_loneValue) (maxL := 8) (ret := (some .int)) (own := RX4) (by decide) rfl rfl (Nat.le_of_ble_eq_true rfl) ?_
  intro p e s m args below meth c A C hr hl hin
  refine v_iload_n C dX4_loneValue_0 rfl 1 rfl ?_
  refine v_iload_n C dX4_loneValue_1 rfl 2 rfl ?_
  refine v_invSI C (As := [.int (iI ((r0 : Nat) : Int)), .int (iI ((i0 : Nat) : Int))]) (kX4_cell l g (r0 := r0) (i0 := i0)) (cwS 2 C.2.2.2.2.1 gX4_loneValue_X4_cell rfl rfl rfl (by decide +kernel) ⟨Nat.le_of_ble_eq_true rfl, Nat.le_of_ble_eq_true rfl⟩) [wTab g ta tp tlo thi T T, wPal g tp tv tr vals ris cn] [] [0, 1] [] (fun _ => [wTab g ta tp tlo thi T T, wPal g tp tv tr vals ris cn]) (fun _ => wTab g ta tp tlo thi T T ++ (wPal g tp tv tr vals ris cn ++ ([]))) rfl rfl rfl (fun _ => rfl) (fun _ => rfl) (fun _ => rfl) (fun _ => rfl) rfl rfl (Nat.le_of_ble_eq_true rfl) dX4_loneValue_2 ⟨by decide, by decide⟩ (fun r_2 _ h_1 => ?_)
  subst h_1
  refine v_istore_n C [(3, .int (iI ((12 * r0 + i0 : Nat) : Int))), (0, .ref (ta)), (1, .int (iI ((r0 : Nat) : Int))), (2, .int (iI ((i0 : Nat) : Int)))] dX4_loneValue_5 rfl (by decide) rfl ?_
  refine v_aload_n C dX4_loneValue_6 rfl 1 rfl ?_
  refine v_get C 0 (kf := 1) rfl rfl (by decide) inX4_loneValue_4 lkX4_loneValue_15 rfl rfl dX4_loneValue_7 ?_
  refine v_iload_n C dX4_loneValue_10 rfl 0 rfl ?_
  refine v_lald C 1 (12 * r0 + i0) rfl rfl (by omega) (by decide) dX4_loneValue_11 ?_
  refine v_lconst C (v := lN 0) dX4_loneValue_12 rfl ?_
  refine v_lcmp C dX4_loneValue_13 ?_
  refine v_ifl_eq C 26 dX4_loneValue_14 (by decide) (fun c_3 => ?_) (fun c_3 => ?_)
  ·
    refine v_aload_n C dX4_loneValue_26 rfl 1 rfl ?_
    refine v_get C 0 (kf := 2) rfl rfl (by decide) inX4_loneValue_4 lkX4_loneValue_19 rfl rfl dX4_loneValue_27 ?_
    refine v_iload_n C dX4_loneValue_30 rfl 0 rfl ?_
    refine v_lald C 2 (12 * r0 + i0) rfl rfl (by omega) (by decide) dX4_loneValue_31 ?_
    refine v_lstore C [(4, .long (hN (T (12 * r0 + i0)))), (3, .int (iI ((12 * r0 + i0 : Nat) : Int))), (0, .ref (ta)), (1, .int (iI ((r0 : Nat) : Int))), (2, .int (iI ((i0 : Nat) : Int)))] dX4_loneValue_32 (by decide) rfl ?_
    refine v_lload C dX4_loneValue_34 0 rfl ?_
    refine v_lload C dX4_loneValue_36 0 rfl ?_
    refine v_lneg C dX4_loneValue_38 ?_
    refine v_land C dX4_loneValue_39 ?_
    refine v_lconst C (v := lN 1) dX4_loneValue_40 rfl ?_
    refine v_lsub C dX4_loneValue_41 ?_
    refine v_st (st' := [.long (lN (((((hN (T (12 * r0 + i0))) &&& ((-((hN (T (12 * r0 + i0)))))))) - (lN (1))).toBitVec.toNat))]) (by rw [wb_ofN]) ?_
    refine v_invSI C (As := [.long (lN (((((hN (T (12 * r0 + i0))) &&& ((-((hN (T (12 * r0 + i0)))))))) - (lN (1))).toBitVec.toNat))]) (kJ13_bc l g (((((hN (T (12 * r0 + i0))) &&& ((-((hN (T (12 * r0 + i0)))))))) - (lN (1))).toBitVec.toNat)) (va_cwS 1 C.2.2.2.2.1 gX4_loneValue_J13_bitCount_95d88 rfl rfl rfl (by decide +kernel) ⟨Nat.le_of_ble_eq_true rfl, Nat.le_of_ble_eq_true rfl⟩) [wTab g ta tp tlo thi T T, wPal g tp tv tr vals ris cn] [] [0, 1] [] (fun _ => [wTab g ta tp tlo thi T T, wPal g tp tv tr vals ris cn]) (fun _ => wTab g ta tp tlo thi T T ++ (wPal g tp tv tr vals ris cn ++ ([]))) rfl rfl rfl (fun _ => rfl) (fun _ => rfl) (fun _ => rfl) (fun _ => rfl) rfl rfl (Nat.le_of_ble_eq_true rfl) dX4_loneValue_42 ⟨by decide, by decide⟩ (fun r_5 _ h_4 => ?_)
    subst h_4
    have hw := lonew_le (hN (T (12 * r0 + i0)))
    refine v_st (st' := [.int (iI ((lonew (hN (T (12 * r0 + i0))) : Nat) : Int))]) rfl ?_
    refine v_istore C [(6, .int (iI ((lonew (hN (T (12 * r0 + i0))) : Nat) : Int))), (4, .long (hN (T (12 * r0 + i0)))), (3, .int (iI ((12 * r0 + i0 : Nat) : Int))), (0, .ref (ta)), (1, .int (iI ((r0 : Nat) : Int))), (2, .int (iI ((i0 : Nat) : Int)))] dX4_loneValue_45 (by decide) rfl ?_
    refine v_aload_n C dX4_loneValue_47 rfl 3 rfl ?_
    refine v_get C 0 (kf := 1) rfl rfl (by decide) inX4_loneValue_4 lkX4_loneValue_15 rfl rfl dX4_loneValue_48 ?_
    refine v_iload_n C dX4_loneValue_51 rfl 2 rfl ?_
    refine v_lald C 1 (12 * r0 + i0) rfl rfl (by omega) (by decide) dX4_loneValue_52 ?_
    refine v_lconst C (v := lN 0) dX4_loneValue_53 rfl ?_
    refine v_lcmp C dX4_loneValue_54 ?_
    refine v_ifl_eq C 63 dX4_loneValue_55 (by decide) (fun c_6 => ?_) (fun c_6 => ?_)
    ·
      refine v_bipush C (z := 64) dX4_loneValue_63 rfl ?_
      refine v_iload C dX4_loneValue_65 0 rfl ?_
      refine v_iadd C dX4_loneValue_67 ?_
      rw [show 64 + (((lonew (hN (T (12 * r0 + i0))) : Nat) : Int)) = ((64 + (lonew (hN (T (12 * r0 + i0)))) : Nat) : Int) from rfl]
      refine v_istore C [(7, .int (iI ((64 + (lonew (hN (T (12 * r0 + i0)))) : Nat) : Int))), (6, .int (iI ((lonew (hN (T (12 * r0 + i0))) : Nat) : Int))), (4, .long (hN (T (12 * r0 + i0)))), (3, .int (iI ((12 * r0 + i0 : Nat) : Int))), (0, .ref (ta)), (1, .int (iI ((r0 : Nat) : Int))), (2, .int (iI ((i0 : Nat) : Int)))] dX4_loneValue_68 (by decide) rfl ?_
      refine v_iload C dX4_loneValue_70 0 rfl ?_
      refine v_aload_n C dX4_loneValue_72 rfl 4 rfl ?_
      refine v_get C 0 (kf := 0) rfl rfl (by decide) inX4_loneValue_4 lkX4_loneValue_9 rfl rfl dX4_loneValue_73 ?_
      refine v_get C 3 (kf := 2) rfl rfl (by decide) inX4_loneValue_1 lkX4_loneValue_54 rfl rfl dX4_loneValue_76 ?_
      refine v_icmp_ge C 95 dX4_loneValue_79 (by decide) ⟨by omega, by omega⟩ ⟨by omega, by omega⟩ (fun c_7 => ?_) (fun c_7 => ?_)
      ·
        refine v_sipush C (z := -1000) dX4_loneValue_95 rfl ?_
        exact (v_iret C hr hl () (by decide) (by decide) rfl (congrArg iI (by unfold lone; rw [if_pos c_3]; exact (if_neg (by omega)).symm)) dX4_loneValue_98)
      ·
        refine v_aload_n C dX4_loneValue_82 rfl 4 rfl ?_
        refine v_get C 0 (kf := 0) rfl rfl (by decide) inX4_loneValue_4 lkX4_loneValue_9 rfl rfl dX4_loneValue_83 ?_
        refine v_get C 3 (kf := 0) rfl rfl (by decide) inX4_loneValue_1 lkX4_loneValue_58 rfl rfl dX4_loneValue_86 ?_
        refine v_iload C dX4_loneValue_89 0 rfl ?_
        refine v_iald C 4 (64 + (lonew (hN (T (12 * r0 + i0))))) rfl (by omega) (by omega) (by decide) dX4_loneValue_91 ?_
        refine v_goto C 98 dX4_loneValue_92 (by decide) ?_
        exact (v_iret C hr hl () (by decide) (by decide) rfl (congrArg iI (by unfold lone; rw [if_pos c_3]; exact (if_pos (by omega)).symm)) dX4_loneValue_98)
    ·
      exact absurd c_3 c_6
  ·
    refine v_aload_n C dX4_loneValue_17 rfl 1 rfl ?_
    refine v_get C 0 (kf := 1) rfl rfl (by decide) inX4_loneValue_4 lkX4_loneValue_15 rfl rfl dX4_loneValue_18 ?_
    refine v_iload_n C dX4_loneValue_21 rfl 0 rfl ?_
    refine v_lald C 1 (12 * r0 + i0) rfl rfl (by omega) (by decide) dX4_loneValue_22 ?_
    refine v_goto C 32 dX4_loneValue_23 (by decide) ?_
    refine v_lstore C [(4, .long (lN (T (12 * r0 + i0)))), (3, .int (iI ((12 * r0 + i0 : Nat) : Int))), (0, .ref (ta)), (1, .int (iI ((r0 : Nat) : Int))), (2, .int (iI ((i0 : Nat) : Int)))] dX4_loneValue_32 (by decide) rfl ?_
    refine v_lload C dX4_loneValue_34 0 rfl ?_
    refine v_lload C dX4_loneValue_36 0 rfl ?_
    refine v_lneg C dX4_loneValue_38 ?_
    refine v_land C dX4_loneValue_39 ?_
    refine v_lconst C (v := lN 1) dX4_loneValue_40 rfl ?_
    refine v_lsub C dX4_loneValue_41 ?_
    refine v_st (st' := [.long (lN (((((lN (T (12 * r0 + i0))) &&& ((-((lN (T (12 * r0 + i0)))))))) - (lN (1))).toBitVec.toNat))]) (by rw [wb_ofN]) ?_
    refine v_invSI C (As := [.long (lN (((((lN (T (12 * r0 + i0))) &&& ((-((lN (T (12 * r0 + i0)))))))) - (lN (1))).toBitVec.toNat))]) (kJ13_bc l g (((((lN (T (12 * r0 + i0))) &&& ((-((lN (T (12 * r0 + i0)))))))) - (lN (1))).toBitVec.toNat)) (va_cwS 1 C.2.2.2.2.1 gX4_loneValue_J13_bitCount_95d88 rfl rfl rfl (by decide +kernel) ⟨Nat.le_of_ble_eq_true rfl, Nat.le_of_ble_eq_true rfl⟩) [wTab g ta tp tlo thi T T, wPal g tp tv tr vals ris cn] [] [0, 1] [] (fun _ => [wTab g ta tp tlo thi T T, wPal g tp tv tr vals ris cn]) (fun _ => wTab g ta tp tlo thi T T ++ (wPal g tp tv tr vals ris cn ++ ([]))) rfl rfl rfl (fun _ => rfl) (fun _ => rfl) (fun _ => rfl) (fun _ => rfl) rfl rfl (Nat.le_of_ble_eq_true rfl) dX4_loneValue_42 ⟨by decide, by decide⟩ (fun r_9 _ h_8 => ?_)
    subst h_8
    have hw := lonew_le (lN (T (12 * r0 + i0)))
    refine v_st (st' := [.int (iI ((lonew (lN (T (12 * r0 + i0))) : Nat) : Int))]) rfl ?_
    refine v_istore C [(6, .int (iI ((lonew (lN (T (12 * r0 + i0))) : Nat) : Int))), (4, .long (lN (T (12 * r0 + i0)))), (3, .int (iI ((12 * r0 + i0 : Nat) : Int))), (0, .ref (ta)), (1, .int (iI ((r0 : Nat) : Int))), (2, .int (iI ((i0 : Nat) : Int)))] dX4_loneValue_45 (by decide) rfl ?_
    refine v_aload_n C dX4_loneValue_47 rfl 3 rfl ?_
    refine v_get C 0 (kf := 1) rfl rfl (by decide) inX4_loneValue_4 lkX4_loneValue_15 rfl rfl dX4_loneValue_48 ?_
    refine v_iload_n C dX4_loneValue_51 rfl 2 rfl ?_
    refine v_lald C 1 (12 * r0 + i0) rfl rfl (by omega) (by decide) dX4_loneValue_52 ?_
    refine v_lconst C (v := lN 0) dX4_loneValue_53 rfl ?_
    refine v_lcmp C dX4_loneValue_54 ?_
    refine v_ifl_eq C 63 dX4_loneValue_55 (by decide) (fun c_10 => ?_) (fun c_10 => ?_)
    ·
      exact absurd c_10 c_3
    ·
      refine v_iload C dX4_loneValue_58 0 rfl ?_
      refine v_goto C 68 dX4_loneValue_60 (by decide) ?_
      refine v_istore C [(7, .int (iI ((lonew (lN (T (12 * r0 + i0))) : Nat) : Int))), (6, .int (iI ((lonew (lN (T (12 * r0 + i0))) : Nat) : Int))), (4, .long (lN (T (12 * r0 + i0)))), (3, .int (iI ((12 * r0 + i0 : Nat) : Int))), (0, .ref (ta)), (1, .int (iI ((r0 : Nat) : Int))), (2, .int (iI ((i0 : Nat) : Int)))] dX4_loneValue_68 (by decide) rfl ?_
      refine v_iload C dX4_loneValue_70 0 rfl ?_
      refine v_aload_n C dX4_loneValue_72 rfl 4 rfl ?_
      refine v_get C 0 (kf := 0) rfl rfl (by decide) inX4_loneValue_4 lkX4_loneValue_9 rfl rfl dX4_loneValue_73 ?_
      refine v_get C 3 (kf := 2) rfl rfl (by decide) inX4_loneValue_1 lkX4_loneValue_54 rfl rfl dX4_loneValue_76 ?_
      refine v_icmp_ge C 95 dX4_loneValue_79 (by decide) ⟨by omega, by omega⟩ ⟨by omega, by omega⟩ (fun c_11 => ?_) (fun c_11 => ?_)
      ·
        refine v_sipush C (z := -1000) dX4_loneValue_95 rfl ?_
        exact (v_iret C hr hl () (by decide) (by decide) rfl (congrArg iI (by unfold lone; rw [if_neg c_3]; exact (if_neg (by omega)).symm)) dX4_loneValue_98)
      ·
        refine v_aload_n C dX4_loneValue_82 rfl 4 rfl ?_
        refine v_get C 0 (kf := 0) rfl rfl (by decide) inX4_loneValue_4 lkX4_loneValue_9 rfl rfl dX4_loneValue_83 ?_
        refine v_get C 3 (kf := 0) rfl rfl (by decide) inX4_loneValue_1 lkX4_loneValue_58 rfl rfl dX4_loneValue_86 ?_
        refine v_iload C dX4_loneValue_89 0 rfl ?_
        refine v_iald C 4 (lonew (lN (T (12 * r0 + i0)))) rfl (by omega) (by omega) (by decide) dX4_loneValue_91 ?_
        refine v_goto C 98 dX4_loneValue_92 (by decide) ?_
        exact (v_iret C hr hl () (by decide) (by decide) rfl (congrArg iI (by unfold lone; rw [if_neg c_3]; exact (if_pos (by omega)).symm)) dX4_loneValue_98)
theorem inX4_sideAtIndex_4 : ∀ w ∈ u_ws RX4 TX4 3, w ∈ wsX4_sideAtIndex := by decide +kernel
theorem lkX4_sideAtIndex_9 : Cond.fieldLink RX4 9 "MergeAtelier$Table" "palette" "LMergeAtelier$Palette;" ∈ wsX4_sideAtIndex := by decide +kernel
theorem inX4_sideAtIndex_1 : ∀ w ∈ u_ws RX1 TX1 3, w ∈ wsX4_sideAtIndex := by decide +kernel
theorem lkX4_sideAtIndex_54 : Cond.fieldLink RX4 54 "MergeAtelier$Palette" "count" "I" ∈ wsX4_sideAtIndex := by decide +kernel
theorem lkX4_sideAtIndex_15 : Cond.fieldLink RX4 15 "MergeAtelier$Table" "low" "[J" ∈ wsX4_sideAtIndex := by decide +kernel
theorem lkX4_sideAtIndex_19 : Cond.fieldLink RX4 19 "MergeAtelier$Table" "high" "[J" ∈ wsX4_sideAtIndex := by decide +kernel
theorem iniX4_sideAtIndex_X5 : Cond.initialized RX5 ∈ wsX4_sideAtIndex := by decide +kernel
theorem staX4_sideAtIndex_hasNumber : Cond.static yX5_hasNumber ∈ wsX4_sideAtIndex := by decide +kernel
set_option maxHeartbeats 4000000 in
set_option maxRecDepth 100000 in
theorem kX4_sideAtIndex (l : Launch) (g : vG) {ta tp tlo thi : Nat} {T : Nat → Nat} {tv tr : Nat} {vals : Nat → Int} {ris : Nat → Nat} {cn : Nat} {r0 i0 : Nat} {ix : Int} (hr0 : r0 < 102) (hi0 : i0 < 12) (hix : b31 ix) (hcn : cn ≤ 100) (hris : ∀ k, k < cn → ris k < 128) : mI l g yX4_sideAtIndex wsX4_sideAtIndex ({ frames := 2, cells := 0, slots := 0, locals := 44 }) [.ref (ta), .int (iI ((r0 : Nat) : Int)), .int (iI ((i0 : Nat) : Int)), .int (iI (ix))] (wTab g ta tp tlo thi T T ++ (wPal g tp tv tr vals ris cn ++ ([]))) (fun _ : Unit => wTab g ta tp tlo thi T T ++ (wPal g tp tv tr vals ris cn ++ ([]))) (fun v _ => v = iI (sIx (fun j => (T (12 * r0 + i0)).testBit (ris j)) ris ix cn)) 0 0 := by
  refine mI_of (cc := cX4_sideAtIndex) (maxL := 8) (ret := (some .int)) (own := RX4) (by decide) rfl rfl (Nat.le_of_ble_eq_true rfl) ?_
  intro p e s m args below meth c A C hr hl hin
  have hi1 := hix.1
  have hi2 := hix.2
  refine v_iload_n C dX4_sideAtIndex_0 rfl 1 rfl ?_
  refine v_iload_n C dX4_sideAtIndex_1 rfl 2 rfl ?_
  refine v_invSI C (As := [.int (iI ((r0 : Nat) : Int)), .int (iI ((i0 : Nat) : Int))]) (kX4_cell l g (r0 := r0) (i0 := i0)) (cwS 2 C.2.2.2.2.1 gX4_sideAtIndex_X4_cell rfl rfl rfl (by decide +kernel) ⟨Nat.le_of_ble_eq_true rfl, Nat.le_of_ble_eq_true rfl⟩) [wTab g ta tp tlo thi T T, wPal g tp tv tr vals ris cn] [] [0, 1] [] (fun _ => [wTab g ta tp tlo thi T T, wPal g tp tv tr vals ris cn]) (fun _ => wTab g ta tp tlo thi T T ++ (wPal g tp tv tr vals ris cn ++ ([]))) rfl rfl rfl (fun _ => rfl) (fun _ => rfl) (fun _ => rfl) (fun _ => rfl) rfl rfl (Nat.le_of_ble_eq_true rfl) dX4_sideAtIndex_2 ⟨by decide, by decide⟩ (fun r_2 _ h_1 => ?_)
  subst h_1
  refine v_istore C [(4, .int (iI ((12 * r0 + i0 : Nat) : Int))), (0, .ref (ta)), (1, .int (iI ((r0 : Nat) : Int))), (2, .int (iI ((i0 : Nat) : Int))), (3, .int (iI (ix)))] dX4_sideAtIndex_5 (by decide) rfl ?_
  refine v_iconst C (z := 0) dX4_sideAtIndex_7 ?_
  refine v_istore C [(5, .int (iI (0))), (4, .int (iI ((12 * r0 + i0 : Nat) : Int))), (0, .ref (ta)), (1, .int (iI ((r0 : Nat) : Int))), (2, .int (iI ((i0 : Nat) : Int))), (3, .int (iI (ix)))] dX4_sideAtIndex_8 (by decide) rfl ?_
  refine v_iconst C (z := 0) dX4_sideAtIndex_10 ?_
  refine v_istore C [(6, .int (iI (0))), (5, .int (iI (0))), (4, .int (iI ((12 * r0 + i0 : Nat) : Int))), (0, .ref (ta)), (1, .int (iI ((r0 : Nat) : Int))), (2, .int (iI ((i0 : Nat) : Int))), (3, .int (iI (ix)))] dX4_sideAtIndex_11 (by decide) rfl ?_
  refine v_lv (lv' := [(0, .ref (ta)), (1, .int (iI ((r0 : Nat) : Int))), (2, .int (iI ((i0 : Nat) : Int))), (3, .int (iI (ix))), (4, .int (iI ((12 * r0 + i0 : Nat) : Int))), (5, .int (iI ((fb_ct (fun j => (T (12 * r0 + i0)).testBit (ris j)) 0 : Nat) : Int))), (6, .int (iI ((0 : Nat) : Int)))]) [3, 4, 5, 6, 2, 1, 0] rfl ?_
  refine v_lp1 (X := Nat) (fun q => wTab g ta tp tlo thi T T ++ (wPal g tp tv tr vals ris cn ++ ([]))) (fun q => [(0, .ref (ta)), (1, .int (iI ((r0 : Nat) : Int))), (2, .int (iI ((i0 : Nat) : Int))), (3, .int (iI (ix))), (4, .int (iI ((12 * r0 + i0 : Nat) : Int))), (5, .int (iI ((fb_ct (fun j => (T (12 * r0 + i0)).testBit (ris j)) q : Nat) : Int))), (6, .int (iI ((q : Nat) : Int)))]) (fun q => cn - q) (fun q => q ≤ cn ∧ sIx (fun j => (T (12 * r0 + i0)).testBit (ris j)) ris ix q = -1) ?_ (0) ⟨Nat.zero_le _, rfl⟩
  intro q hJ13 ih13
  try dsimp only at hJ13 ⊢
  have hct := fb_ct_le (fun j => (T (12 * r0 + i0)).testBit (ris j)) q
  refine v_iload C dX4_sideAtIndex_13 6 rfl ?_
  refine v_aload_n C dX4_sideAtIndex_15 rfl 0 rfl ?_
  refine v_get C 0 (kf := 0) rfl rfl (by decide) inX4_sideAtIndex_4 lkX4_sideAtIndex_9 rfl rfl dX4_sideAtIndex_16 ?_
  refine v_get C 3 (kf := 2) rfl rfl (by decide) inX4_sideAtIndex_1 lkX4_sideAtIndex_54 rfl rfl dX4_sideAtIndex_19 ?_
  refine v_icmp_ge C 76 dX4_sideAtIndex_22 (by decide) ⟨by omega, by omega⟩ ⟨by omega, by omega⟩ (fun c_3 => ?_) (fun c_3 => ?_)
  ·
    obtain rfl : q = cn := by omega
    refine v_iconst C (z := -1) dX4_sideAtIndex_76 ?_
    exact (v_iret C hr hl () (by decide) (by decide) rfl (congrArg iI hJ13.2.symm) dX4_sideAtIndex_77)
  ·
    refine v_aload_n C dX4_sideAtIndex_25 rfl 0 rfl ?_
    refine v_get C 0 (kf := 0) rfl rfl (by decide) inX4_sideAtIndex_4 lkX4_sideAtIndex_9 rfl rfl dX4_sideAtIndex_26 ?_
    refine v_iload C dX4_sideAtIndex_29 6 rfl ?_
    have hrq := hris q (by omega)
    refine v_invVI C (As := [.int (iI ((q : Nat) : Int))]) (q0 := 0) (ci := 1) (kX1_numberInOrder l g (ta := tp) (tv := tv) (tr := tr) (vals := vals) (ris := ris) (cn := cn) (q0 := q) (by omega)) (cwV 1 C.2.2.2.2.1 gX4_sideAtIndex_X1_numberInOrder rfl rfl rfl (by decide +kernel) ⟨Nat.le_of_ble_eq_true rfl, Nat.le_of_ble_eq_true rfl⟩) [wTab g ta tp tlo thi T T, wPal g tp tv tr vals ris cn] [1] [0] [] (fun _ => [wTab g ta tp tlo thi T T, wPal g tp tv tr vals ris cn]) (fun _ => wTab g ta tp tlo thi T T ++ (wPal g tp tv tr vals ris cn ++ ([]))) rfl rfl rfl (fun _ => rfl) (fun _ => rfl) (fun _ => rfl) (fun _ => rfl) rfl rfl rfl rfl rfl (Nat.le_of_ble_eq_true rfl) dX4_sideAtIndex_31 ⟨by decide, by decide⟩ (fun r_5 _ h_4 => ?_)
    subst h_4
    refine v_istore C [(7, .int (iI ((ris (q) : Nat) : Int))), (0, .ref (ta)), (1, .int (iI ((r0 : Nat) : Int))), (2, .int (iI ((i0 : Nat) : Int))), (3, .int (iI (ix))), (4, .int (iI ((12 * r0 + i0 : Nat) : Int))), (5, .int (iI ((fb_ct (fun j => (T (12 * r0 + i0)).testBit (ris j)) q : Nat) : Int))), (6, .int (iI ((q : Nat) : Int)))] dX4_sideAtIndex_34 (by decide) rfl ?_
    refine v_aload_n C dX4_sideAtIndex_36 rfl 1 rfl ?_
    refine v_get C 0 (kf := 1) rfl rfl (by decide) inX4_sideAtIndex_4 lkX4_sideAtIndex_15 rfl rfl dX4_sideAtIndex_37 ?_
    refine v_iload C dX4_sideAtIndex_40 5 rfl ?_
    refine v_lald C 1 (12 * r0 + i0) rfl rfl (by omega) (by decide) dX4_sideAtIndex_42 ?_
    refine v_aload_n C dX4_sideAtIndex_43 rfl 1 rfl ?_
    refine v_get C 0 (kf := 2) rfl rfl (by decide) inX4_sideAtIndex_4 lkX4_sideAtIndex_19 rfl rfl dX4_sideAtIndex_44 ?_
    refine v_iload C dX4_sideAtIndex_47 5 rfl ?_
    refine v_lald C 2 (12 * r0 + i0) rfl rfl (by omega) (by decide) dX4_sideAtIndex_49 ?_
    refine v_iload C dX4_sideAtIndex_50 0 rfl ?_
    refine v_invNI C (As := [.long (lN (T (12 * r0 + i0))), .long (hN (T (12 * r0 + i0))), .int (iI ((ris (q) : Nat) : Int))]) (kX5_hasNumber l g (S := T (12 * r0 + i0)) (n := ris (q)) (by omega)) ⟨va_cnB 3 C.2.2.2.2.1 gX4_sideAtIndex_X5_hasNumber_n66 rfl rfl rfl C.2.2.2.2.2.1.2.2.2.2.2.2 (C.2.2.2.2.1 _ iniX4_sideAtIndex_X5) (by decide +kernel) ⟨Nat.le_of_ble_eq_true rfl, Nat.le_of_ble_eq_true rfl⟩, C.2.2.2.2.1 _ staX4_sideAtIndex_hasNumber, trivial⟩ [wTab g ta tp tlo thi T T, wPal g tp tv tr vals ris cn] [] [0, 1] [] (fun _ => [wTab g ta tp tlo thi T T, wPal g tp tv tr vals ris cn]) (fun _ => wTab g ta tp tlo thi T T ++ (wPal g tp tv tr vals ris cn ++ ([]))) rfl rfl rfl (fun _ => rfl) (fun _ => rfl) (fun _ => rfl) (fun _ => rfl) rfl rfl (Nat.le_of_ble_eq_true rfl) dX4_sideAtIndex_52 ⟨by decide, by decide⟩ (fun r_7 _ h_6 => ?_)
    subst h_6
    refine v_ifz_eq C 70 dX4_sideAtIndex_55 (by decide) (fun c_8 => ?_) (fun c_8 => ?_)
    ·
      refine v_iinc C [(6, .int (iI (((q : Nat) : Int) + 1))), (7, .int (iI ((ris (q) : Nat) : Int))), (0, .ref (ta)), (1, .int (iI ((r0 : Nat) : Int))), (2, .int (iI ((i0 : Nat) : Int))), (3, .int (iI (ix))), (4, .int (iI ((12 * r0 + i0 : Nat) : Int))), (5, .int (iI ((fb_ct (fun j => (T (12 * r0 + i0)).testBit (ris j)) q : Nat) : Int)))] dX4_sideAtIndex_70 7 rfl (by decide) rfl ?_
      rw [show ((q : Nat) : Int) + 1 = ((q + 1 : Nat) : Int) from rfl]
      refine v_goto C 13 dX4_sideAtIndex_73 (by decide) ?_
      refine v_lv (lv' := [(0, .ref (ta)), (1, .int (iI ((r0 : Nat) : Int))), (2, .int (iI ((i0 : Nat) : Int))), (3, .int (iI (ix))), (4, .int (iI ((12 * r0 + i0 : Nat) : Int))), (5, .int (iI ((fb_ct (fun j => (T (12 * r0 + i0)).testBit (ris j)) q : Nat) : Int))), (6, .int (iI ((q + 1 : Nat) : Int)))]) [2, 3, 4, 5, 6, 7, 0] rfl ?_
      rw [show ((fb_ct (fun j => (T (12 * r0 + i0)).testBit (ris j)) q : Nat) : Int) = ((fb_ct (fun j => (T (12 * r0 + i0)).testBit (ris j)) (q + 1) : Nat) : Int) from (ct_fz c_8)]
      exact ih13 (q + 1) ⟨by omega, sIx_missZ hJ13.2 c_8⟩ (by omega)
    ·
      refine v_iload C dX4_sideAtIndex_58 6 rfl ?_
      refine v_iload_n C dX4_sideAtIndex_60 rfl 4 rfl ?_
      refine v_icmp_ne C 67 dX4_sideAtIndex_61 (by decide) ⟨by omega, by omega⟩ ⟨by omega, by omega⟩ (fun c_9 => ?_) (fun c_9 => ?_)
      ·
        refine v_iinc C [(5, .int (iI (((fb_ct (fun j => (T (12 * r0 + i0)).testBit (ris j)) q : Nat) : Int) + 1))), (7, .int (iI ((ris (q) : Nat) : Int))), (0, .ref (ta)), (1, .int (iI ((r0 : Nat) : Int))), (2, .int (iI ((i0 : Nat) : Int))), (3, .int (iI (ix))), (4, .int (iI ((12 * r0 + i0 : Nat) : Int))), (6, .int (iI ((q : Nat) : Int)))] dX4_sideAtIndex_67 6 rfl (by decide) rfl ?_
        rw [show ((fb_ct (fun j => (T (12 * r0 + i0)).testBit (ris j)) q : Nat) : Int) + 1 = ((fb_ct (fun j => (T (12 * r0 + i0)).testBit (ris j)) q + 1 : Nat) : Int) from rfl]
        refine v_iinc C [(6, .int (iI (((q : Nat) : Int) + 1))), (5, .int (iI ((fb_ct (fun j => (T (12 * r0 + i0)).testBit (ris j)) q + 1 : Nat) : Int))), (7, .int (iI ((ris (q) : Nat) : Int))), (0, .ref (ta)), (1, .int (iI ((r0 : Nat) : Int))), (2, .int (iI ((i0 : Nat) : Int))), (3, .int (iI (ix))), (4, .int (iI ((12 * r0 + i0 : Nat) : Int)))] dX4_sideAtIndex_70 7 rfl (by decide) rfl ?_
        rw [show ((q : Nat) : Int) + 1 = ((q + 1 : Nat) : Int) from rfl]
        refine v_goto C 13 dX4_sideAtIndex_73 (by decide) ?_
        refine v_lv (lv' := [(0, .ref (ta)), (1, .int (iI ((r0 : Nat) : Int))), (2, .int (iI ((i0 : Nat) : Int))), (3, .int (iI (ix))), (4, .int (iI ((12 * r0 + i0 : Nat) : Int))), (5, .int (iI ((fb_ct (fun j => (T (12 * r0 + i0)).testBit (ris j)) q + 1 : Nat) : Int))), (6, .int (iI ((q + 1 : Nat) : Int)))]) [3, 4, 5, 6, 7, 1, 0] rfl ?_
        rw [show ((fb_ct (fun j => (T (12 * r0 + i0)).testBit (ris j)) q + 1 : Nat) : Int) = ((fb_ct (fun j => (T (12 * r0 + i0)).testBit (ris j)) (q + 1) : Nat) : Int) from (ct_tz c_8)]
        exact ih13 (q + 1) ⟨by omega, sIx_missI hJ13.2 c_9⟩ (by omega)
      ·
        refine v_iload C dX4_sideAtIndex_64 0 rfl ?_
        exact (v_iret C hr hl () (by decide) (by decide) rfl (congrArg iI (sIx_hit hJ13.2 c_8 c_9 cn (by omega)).symm) dX4_sideAtIndex_66)
