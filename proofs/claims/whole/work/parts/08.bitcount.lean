theorem lkc314 : Cond.constantLong RJ13 314 (6148914691236517205) ∈ wsJ13_bitCount_95d88 := by decide +kernel
theorem lkc314v : (6148914691236517205 : Int64) = lN (rep 85 8) := by decide +kernel
theorem lkc316 : Cond.constantLong RJ13 316 (3689348814741910323) ∈ wsJ13_bitCount_95d88 := by decide +kernel
theorem lkc316v : (3689348814741910323 : Int64) = lN (rep 51 8) := by decide +kernel
theorem lkc318 : Cond.constantLong RJ13 318 (1085102592571150095) ∈ wsJ13_bitCount_95d88 := by decide +kernel
theorem lkc318v : (1085102592571150095 : Int64) = lN (rep 15 8) := by decide +kernel
set_option maxHeartbeats 4000000 in
set_option maxRecDepth 100000 in
theorem kJ13_bitCount_95d88 (l : Launch) (g : vG) {n : Nat} (hn : n < 2 ^ 64) : mI l g yJ13_bitCount_95d88 wsJ13_bitCount_95d88 ({ frames := 0, cells := 0, slots := 0, locals := 0 }) [.long (lN (n))] ([]) (fun _ : Unit => []) (fun v _ => v = iI ((fb_ct (fun j => n.testBit j) 64 : Nat) : Int)) 0 0 := by
  refine mI_of (cc := cJ13_bitCount_95d88) (maxL := 2) (ret := (some .int)) (own := RJ13) (by decide) rfl rfl (Nat.le_of_ble_eq_true rfl) ?_
  intro p e s m args below meth c A C hr hl hin
  refine v_lload_n C dJ13_bitCount_95d88_0 rfl 0 rfl ?_
  refine v_lload_n C dJ13_bitCount_95d88_1 rfl 0 rfl ?_
  refine v_iconst C (z := 1) dJ13_bitCount_95d88_2 ?_
  refine v_lushr C dJ13_bitCount_95d88_3 (sh_u (n := n) (k := 1) hn (by decide)) ?_
  refine v_ldc2 C lkc314 lkc314v dJ13_bitCount_95d88_4 ?_
  refine v_land_lo C dJ13_bitCount_95d88_7 ?_
  refine v_lsub_lo C (Nat.le_trans Nat.and_le_left (Nat.div_le_self _ _)) dJ13_bitCount_95d88_8 ?_
  obtain ⟨n1, hn1⟩ : ∃ x : Nat, x = n - ((n / 2 ^ 1) &&& (rep 85 8)) := ⟨_, rfl⟩
  rw [← hn1]
  have hb1 : n1 < 2 ^ 64 := by omega
  have hs1 : n1 = st1 rep 8 n := hn1
  refine v_lstore_n C [(0, .long (lN (n1)))] dJ13_bitCount_95d88_9 rfl (by decide) rfl ?_
  refine v_lload_n C dJ13_bitCount_95d88_10 rfl 0 rfl ?_
  refine v_ldc2 C lkc316 lkc316v dJ13_bitCount_95d88_11 ?_
  refine v_land_lo C dJ13_bitCount_95d88_14 ?_
  refine v_lload_n C dJ13_bitCount_95d88_15 rfl 0 rfl ?_
  refine v_iconst C (z := 2) dJ13_bitCount_95d88_16 ?_
  refine v_lushr C dJ13_bitCount_95d88_17 (sh_u (n := n1) (k := 2) hb1 (by decide)) ?_
  refine v_ldc2 C lkc316 lkc316v dJ13_bitCount_95d88_18 ?_
  refine v_land_lo C dJ13_bitCount_95d88_21 ?_
  refine v_ladd_lo C dJ13_bitCount_95d88_22 ?_
  obtain ⟨n2, hn2⟩ : ∃ x : Nat, x = (n1 &&& (rep 51 8)) + ((n1 / 2 ^ 2) &&& (rep 51 8)) := ⟨_, rfl⟩
  rw [← hn2]
  have hs2 : n2 = st2 rep 8 n1 := hn2
  have hb2 : n2 < 2 ^ 64 := by
    have q1 : n1 &&& rep 51 8 ≤ rep 51 8 := Nat.and_le_right
    have q2 : n1 / 2 ^ 2 &&& rep 51 8 ≤ rep 51 8 := Nat.and_le_right
    have q3 : rep 51 8 = 3689348814741910323 := by decide
    omega
  refine v_lstore_n C [(0, .long (lN (n2)))] dJ13_bitCount_95d88_23 rfl (by decide) rfl ?_
  refine v_lload_n C dJ13_bitCount_95d88_24 rfl 0 rfl ?_
  refine v_lload_n C dJ13_bitCount_95d88_25 rfl 0 rfl ?_
  refine v_iconst C (z := 4) dJ13_bitCount_95d88_26 ?_
  refine v_lushr C dJ13_bitCount_95d88_27 (sh_u (n := n2) (k := 4) hb2 (by decide)) ?_
  refine v_ladd_lo C dJ13_bitCount_95d88_28 ?_
  refine v_ldc2 C lkc318 lkc318v dJ13_bitCount_95d88_29 ?_
  refine v_land_lo C dJ13_bitCount_95d88_32 ?_
  obtain ⟨n3, hn3⟩ : ∃ x : Nat, x = (n2 + (n2 / 2 ^ 4)) &&& (rep 15 8) := ⟨_, rfl⟩
  rw [← hn3]
  have hs3 : n3 = stF 8 n := by unfold stF; rw [← hs1, ← hs2]; exact hn3
  obtain ⟨p0, p1, p2, p3, p4, p5, p6, p7, b0, b1, b2, b3, b4, b5, b6, b7, hx, hct⟩ := stF_all n
  rw [← hs3] at hx
  obtain ⟨hres, hlt⟩ := fold_all b0 b1 b2 b3 b4 b5 b6 b7 hx
  have hb3 : n3 < 2 ^ 64 := by omega
  refine v_lstore_n C [(0, .long (lN (n3)))] dJ13_bitCount_95d88_33 rfl (by decide) rfl ?_
  refine v_lload_n C dJ13_bitCount_95d88_34 rfl 0 rfl ?_
  refine v_lload_n C dJ13_bitCount_95d88_35 rfl 0 rfl ?_
  refine v_bipush C (z := 8) dJ13_bitCount_95d88_36 rfl ?_
  refine v_lushr C dJ13_bitCount_95d88_38 (sh_u (n := n3) (k := 8) hb3 (by decide)) ?_
  refine v_ladd_lo C dJ13_bitCount_95d88_39 ?_
  obtain ⟨n4, hn4⟩ : ∃ x : Nat, x = n3 + (n3 / 2 ^ 8) := ⟨_, rfl⟩
  rw [← hn4]
  have hb4 : n4 < 2 ^ 64 := by omega
  refine v_lstore_n C [(0, .long (lN (n4)))] dJ13_bitCount_95d88_40 rfl (by decide) rfl ?_
  refine v_lload_n C dJ13_bitCount_95d88_41 rfl 0 rfl ?_
  refine v_lload_n C dJ13_bitCount_95d88_42 rfl 0 rfl ?_
  refine v_bipush C (z := 16) dJ13_bitCount_95d88_43 rfl ?_
  refine v_lushr C dJ13_bitCount_95d88_45 (sh_u (n := n4) (k := 16) hb4 (by decide)) ?_
  refine v_ladd_lo C dJ13_bitCount_95d88_46 ?_
  obtain ⟨n5, hn5⟩ : ∃ x : Nat, x = n4 + (n4 / 2 ^ 16) := ⟨_, rfl⟩
  rw [← hn5]
  have hb5 : n5 < 2 ^ 64 := by omega
  refine v_lstore_n C [(0, .long (lN (n5)))] dJ13_bitCount_95d88_47 rfl (by decide) rfl ?_
  refine v_lload_n C dJ13_bitCount_95d88_48 rfl 0 rfl ?_
  refine v_lload_n C dJ13_bitCount_95d88_49 rfl 0 rfl ?_
  refine v_bipush C (z := 32) dJ13_bitCount_95d88_50 rfl ?_
  refine v_lushr C dJ13_bitCount_95d88_52 (sh_u (n := n5) (k := 32) hb5 (by decide)) ?_
  refine v_ladd_lo C dJ13_bitCount_95d88_53 ?_
  refine v_lstore_n C [(0, .long (lN (n5 + (n5 / 2 ^ 32))))] dJ13_bitCount_95d88_54 rfl (by decide) rfl ?_
  refine v_lload_n C dJ13_bitCount_95d88_55 rfl 0 rfl ?_
  refine v_l2i C dJ13_bitCount_95d88_56 (v := nI (n5 + n5 / 2 ^ 32)) (lN_i _) ?_
  refine v_bipush C (z := 127) dJ13_bitCount_95d88_57 rfl ?_
  refine v_iandR C dJ13_bitCount_95d88_59 ?_
  exact (v_iret C hr hl () (by decide) (by decide) rfl (by rw [hct, ← hres, iI_nI]; exact bc_end hn4 hn5) dJ13_bitCount_95d88_60)
