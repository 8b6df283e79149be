set_option maxHeartbeats 4000000 in
set_option maxRecDepth 100000 in
theorem kX5_lowBit (l : Launch) (g : vG) {n : Nat} (hn : n < 128) : mL l g yX5_lowBit wsX5_lowBit ({ frames := 0, cells := 0, slots := 0, locals := 0 }) [.int (iI ((n : Nat) : Int))] ([]) (fun _ : Unit => []) (fun v _ => v = lN (2 ^ n)) 0 0 := by
  refine mL_of (cc := cX5_lowBit) (maxL := 1) (ret := (some .long)) (own := RX5) (by decide) rfl rfl (Nat.le_of_ble_eq_true rfl) ?_
  intro p e s m args below meth c A C hr hl hin
  refine v_iload_n C dX5_lowBit_0 rfl 0 rfl ?_
  refine v_bipush C (z := 64) dX5_lowBit_1 rfl ?_
  refine v_icmp_ge C 12 dX5_lowBit_3 (by decide) ⟨by omega, by omega⟩ (b31_lit _ rfl) (fun c_1 => ?_) (fun c_1 => ?_)
  ·
    refine v_lconst C (v := lN 0) dX5_lowBit_12 rfl ?_
    exact (v_lret C hr hl () (by decide) (by decide) rfl (lowBit_out n hn (by omega)) dX5_lowBit_13)
  ·
    refine v_lconst C (v := lN 1) dX5_lowBit_6 rfl ?_
    refine v_iload_n C dX5_lowBit_7 rfl 0 rfl ?_
    refine v_lshl C dX5_lowBit_8 (lowBit_in (by omega)) ?_
    refine v_goto C 13 dX5_lowBit_9 (by decide) ?_
    exact (v_lret C hr hl () (by decide) (by decide) rfl rfl dX5_lowBit_13)
set_option maxHeartbeats 4000000 in
set_option maxRecDepth 100000 in
theorem kX5_highBit (l : Launch) (g : vG) {n : Nat} (hn : n < 128) : mL l g yX5_highBit wsX5_highBit ({ frames := 0, cells := 0, slots := 0, locals := 0 }) [.int (iI ((n : Nat) : Int))] ([]) (fun _ : Unit => []) (fun v _ => v = hN (2 ^ n)) 0 0 := by
  refine mL_of (cc := cX5_highBit) (maxL := 1) (ret := (some .long)) (own := RX5) (by decide) rfl rfl (Nat.le_of_ble_eq_true rfl) ?_
  intro p e s m args below meth c A C hr hl hin
  refine v_iload_n C dX5_highBit_0 rfl 0 rfl ?_
  refine v_bipush C (z := 64) dX5_highBit_1 rfl ?_
  refine v_icmp_ge C 10 dX5_highBit_3 (by decide) ⟨by omega, by omega⟩ (b31_lit _ rfl) (fun c_1 => ?_) (fun c_1 => ?_)
  ·
    refine v_lconst C (v := lN 1) dX5_highBit_10 rfl ?_
    refine v_iload_n C dX5_highBit_11 rfl 0 rfl ?_
    refine v_bipush C (z := 64) dX5_highBit_12 rfl ?_
    refine v_isub C dX5_highBit_14 ?_
    refine v_lshl C dX5_highBit_15 (highBit_sh (by omega) hn) ?_
    exact (v_lret C hr hl () (by decide) (by decide) rfl rfl dX5_highBit_16)
  ·
    refine v_lconst C (v := lN 0) dX5_highBit_6 rfl ?_
    refine v_goto C 16 dX5_highBit_7 (by decide) ?_
    exact (v_lret C hr hl () (by decide) (by decide) rfl (highBit_out n (by omega)) dX5_highBit_16)
set_option maxHeartbeats 4000000 in
set_option maxRecDepth 100000 in
theorem kX5_hasNumber (l : Launch) (g : vG) {S n : Nat} (hn : n < 128) : mI l g yX5_hasNumber wsX5_hasNumber ({ frames := 1, cells := 0, slots := 0, locals := 20 }) [.long (lN (S)), .long (hN (S)), .int (iI ((n : Nat) : Int))] ([]) (fun _ : Unit => []) (fun v _ => v = iI (bZ (S.testBit n))) 0 0 := by
  refine mI_of (cc := cX5_hasNumber) (maxL := 5) (ret := (some .boolean)) (own := RX5) (by decide) rfl rfl (Nat.le_of_ble_eq_true rfl) ?_
  intro p e s m args below meth c A C hr hl hin
  refine v_lload_n C dX5_hasNumber_0 rfl 0 rfl ?_
  refine v_iload C dX5_hasNumber_1 2 rfl ?_
  refine v_invSL C (As := [.int (iI ((n : Nat) : Int))]) (kX5_lowBit l g (n := n) (by omega)) (cwS 1 C.2.2.2.2.1 gX5_hasNumber_X5_lowBit rfl rfl rfl (by decide +kernel) ⟨Nat.le_of_ble_eq_true rfl, Nat.le_of_ble_eq_true rfl⟩) [] [] [] [.long (lN (S))] (fun _ => []) (fun _ => []) rfl rfl rfl (fun _ => rfl) (fun _ => rfl) (fun _ => rfl) (fun _ => rfl) rfl rfl (Nat.le_of_ble_eq_true rfl) dX5_hasNumber_3 ⟨by decide, by decide⟩ (fun r_2 _ h_1 => ?_)
  subst h_1
  refine v_land_lo C dX5_hasNumber_6 ?_
  refine v_lload_n C dX5_hasNumber_7 rfl 1 rfl ?_
  refine v_iload C dX5_hasNumber_8 2 rfl ?_
  refine v_invSL C (As := [.int (iI ((n : Nat) : Int))]) (kX5_highBit l g (n := n) (by omega)) (cwS 1 C.2.2.2.2.1 gX5_hasNumber_X5_highBit rfl rfl rfl (by decide +kernel) ⟨Nat.le_of_ble_eq_true rfl, Nat.le_of_ble_eq_true rfl⟩) [] [] [] [.long (hN (S)), .long (lN (S &&& (2 ^ n)))] (fun _ => []) (fun _ => []) rfl rfl rfl (fun _ => rfl) (fun _ => rfl) (fun _ => rfl) (fun _ => rfl) rfl rfl (Nat.le_of_ble_eq_true rfl) dX5_hasNumber_10 ⟨by decide, by decide⟩ (fun r_4 _ h_3 => ?_)
  subst h_3
  refine v_land_hi C dX5_hasNumber_13 ?_
  refine v_lor C dX5_hasNumber_14 ?_
  refine v_lconst C (v := lN 0) dX5_hasNumber_15 rfl ?_
  refine v_lcmp C dX5_hasNumber_16 ?_
  refine v_ifl_eq C 24 dX5_hasNumber_17 (by decide) (fun c_5 => ?_) (fun c_5 => ?_)
  ·
    refine v_iconst C (z := 0) dX5_hasNumber_24 ?_
    exact (v_zret C hr hl () rfl (by decide) (by decide) rfl (bz_f (has_f c_5 hn)) dX5_hasNumber_25)
  ·
    refine v_iconst C (z := 1) dX5_hasNumber_20 ?_
    refine v_goto C 25 dX5_hasNumber_21 (by decide) ?_
    exact (v_zret C hr hl () rfl (by decide) (by decide) rfl (bz_t (has_t c_5)) dX5_hasNumber_25)
