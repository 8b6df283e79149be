theorem inX6_isWrong_6 : ∀ w ∈ u_ws RX6 TX6 23, w ∈ wsX6_isWrong := by decide +kernel
theorem lkX6_isWrong_58 : Cond.fieldLink RX6 58 "MergeAtelierModel" "values" "[I" ∈ wsX6_isWrong := by decide +kernel
theorem lkX6_isWrong_52 : Cond.fieldLink RX6 52 "MergeAtelierModel" "shifts" "[I" ∈ wsX6_isWrong := by decide +kernel
set_option maxHeartbeats 4000000 in
set_option maxRecDepth 100000 in
theorem kX6_isWrong (l : Launch) (g : vG) {mm b1 b2 b3 b4 b5 b6 b7 b8 b9 b10 b11 b12 b13 b14 b15 b16 b17 : Nat} {kinds tgs first second vals qs : Nat → Int} {hds An qi qo Tm Nw Kw ris : Nat → Nat} {ni bc cm cn qc cd : Nat} {q0 Sa Sb : Nat} (hq0 : q0 < 10) (hpal : PalOK vals ris cn) (hqb : ∀ k, k < 10 → qi k < 12 ∧ qo k < 12 ∧ -99 ≤ qs k ∧ qs k ≤ 99) (hA0 : 0 < Sa) (hA : Sa < 2 ^ cn) (hB0 : 0 < Sb) (hB : Sb < 2 ^ cn) : mI l g yX6_isWrong wsX6_isWrong ({ frames := 2, cells := 0, slots := 0, locals := 52 }) [.ref (mm), .int (iI ((q0 : Nat) : Int)), .long (loM (Sa)), .long (hiM (Sa)), .long (loM (Sb)), .long (hiM (Sb))] (wMM g mm b1 b2 b3 b4 b5 b6 b7 b8 b9 b10 b11 b12 b13 b14 b15 b16 b17 kinds ni cm first second An An Tm Tm bc hds tgs qc qi qo qs cn vals Nw Nw Kw Kw cd ++ ([])) (fun _ : Unit => wMM g mm b1 b2 b3 b4 b5 b6 b7 b8 b9 b10 b11 b12 b13 b14 b15 b16 b17 kinds ni cm first second An An Tm Tm bc hds tgs qc qi qo qs cn vals Nw Nw Kw Kw cd ++ ([])) (fun v _ => v = iI (bZ (decide (qst vals cn (qs q0) Sa Sb = 1)))) 0 0 := by
  refine mI_of (cc := cX6_isWrong) (maxL := 12) (ret := (some .boolean)) (own := RX6) (by decide) rfl rfl (Nat.le_of_ble_eq_true rfl) ?_
  intro p e s m args below meth c A C hr hl hin
  obtain ⟨⟨hcn1, hcn⟩, -, -, hrc, -, -, hv, -⟩ := id hpal
  obtain ⟨hb1, hb2, hb3, hb4⟩ := hqb q0 hq0
  refine v_aload_n C dX6_isWrong_0 rfl 0 rfl ?_
  refine v_lload_n C dX6_isWrong_1 rfl 2 rfl ?_
  refine v_lload C dX6_isWrong_2 3 rfl ?_
  refine v_invVI C (As := [.long (loM (Sa)), .long (hiM (Sa))]) (q0 := 0) (ci := 6) (kX6_count l g (mm := mm) (b1 := b1) (b2 := b2) (b3 := b3) (b4 := b4) (b5 := b5) (b6 := b6) (b7 := b7) (b8 := b8) (b9 := b9) (b10 := b10) (b11 := b11) (b12 := b12) (b13 := b13) (b14 := b14) (b15 := b15) (b16 := b16) (b17 := b17) (kinds := kinds) (tgs := tgs) (first := first) (second := second) (vals := vals) (qs := qs) (hds := hds) (An := An) (qi := qi) (qo := qo) (Tm := Tm) (Nw := Nw) (Kw := Kw) (ni := ni) (bc := bc) (cm := cm) (cn := cn) (qc := qc) (cd := cd) (ris := ris) (S := Sa) (by omega) hA) (cwV 2 C.2.2.2.2.1 gX6_isWrong_X6_count rfl rfl rfl (by decide +kernel) ⟨Nat.le_of_ble_eq_true rfl, Nat.le_of_ble_eq_true rfl⟩) [wMM g mm b1 b2 b3 b4 b5 b6 b7 b8 b9 b10 b11 b12 b13 b14 b15 b16 b17 kinds ni cm first second An An Tm Tm bc hds tgs qc qi qo qs cn vals Nw Nw Kw Kw cd] [0] [] [] (fun _ => [wMM g mm b1 b2 b3 b4 b5 b6 b7 b8 b9 b10 b11 b12 b13 b14 b15 b16 b17 kinds ni cm first second An An Tm Tm bc hds tgs qc qi qo qs cn vals Nw Nw Kw Kw cd]) (fun _ => wMM g mm b1 b2 b3 b4 b5 b6 b7 b8 b9 b10 b11 b12 b13 b14 b15 b16 b17 kinds ni cm first second An An Tm Tm bc hds tgs qc qi qo qs cn vals Nw Nw Kw Kw cd ++ ([])) rfl rfl rfl (fun _ => rfl) (fun _ => rfl) (fun _ => rfl) (fun _ => rfl) rfl rfl rfl rfl rfl (Nat.le_of_ble_eq_true rfl) dX6_isWrong_4 ⟨by decide, by decide⟩ (fun r_2 _ h_1 => ?_)
  subst h_1
  refine v_iconst C (z := 1) dX6_isWrong_7 ?_
  refine v_icmp_gt C 23 dX6_isWrong_8 (by decide) (cnt31 _) (b31_lit _ rfl) (fun c_3 => ?_) (fun c_3 => ?_)
  ·
    refine v_iconst C (z := 0) dX6_isWrong_23 ?_
    exact (v_zret C hr hl () rfl (by decide) (by decide) rfl (bz_df (qst_open (Or.inl (by omega)))) dX6_isWrong_24)
  ·
    refine v_aload_n C dX6_isWrong_11 rfl 0 rfl ?_
    refine v_lload C dX6_isWrong_12 4 rfl ?_
    refine v_lload C dX6_isWrong_14 5 rfl ?_
    refine v_invVI C (As := [.long (loM (Sb)), .long (hiM (Sb))]) (q0 := 0) (ci := 6) (kX6_count l g (mm := mm) (b1 := b1) (b2 := b2) (b3 := b3) (b4 := b4) (b5 := b5) (b6 := b6) (b7 := b7) (b8 := b8) (b9 := b9) (b10 := b10) (b11 := b11) (b12 := b12) (b13 := b13) (b14 := b14) (b15 := b15) (b16 := b16) (b17 := b17) (kinds := kinds) (tgs := tgs) (first := first) (second := second) (vals := vals) (qs := qs) (hds := hds) (An := An) (qi := qi) (qo := qo) (Tm := Tm) (Nw := Nw) (Kw := Kw) (ni := ni) (bc := bc) (cm := cm) (cn := cn) (qc := qc) (cd := cd) (ris := ris) (S := Sb) (by omega) hB) (cwV 2 C.2.2.2.2.1 gX6_isWrong_X6_count rfl rfl rfl (by decide +kernel) ⟨Nat.le_of_ble_eq_true rfl, Nat.le_of_ble_eq_true rfl⟩) [wMM g mm b1 b2 b3 b4 b5 b6 b7 b8 b9 b10 b11 b12 b13 b14 b15 b16 b17 kinds ni cm first second An An Tm Tm bc hds tgs qc qi qo qs cn vals Nw Nw Kw Kw cd] [0] [] [] (fun _ => [wMM g mm b1 b2 b3 b4 b5 b6 b7 b8 b9 b10 b11 b12 b13 b14 b15 b16 b17 kinds ni cm first second An An Tm Tm bc hds tgs qc qi qo qs cn vals Nw Nw Kw Kw cd]) (fun _ => wMM g mm b1 b2 b3 b4 b5 b6 b7 b8 b9 b10 b11 b12 b13 b14 b15 b16 b17 kinds ni cm first second An An Tm Tm bc hds tgs qc qi qo qs cn vals Nw Nw Kw Kw cd ++ ([])) rfl rfl rfl (fun _ => rfl) (fun _ => rfl) (fun _ => rfl) (fun _ => rfl) rfl rfl rfl rfl rfl (Nat.le_of_ble_eq_true rfl) dX6_isWrong_16 ⟨by decide, by decide⟩ (fun r_5 _ h_4 => ?_)
    subst h_4
    refine v_iconst C (z := 1) dX6_isWrong_19 ?_
    refine v_icmp_le C 25 dX6_isWrong_20 (by decide) (cnt31 _) (b31_lit _ rfl) (fun c_6 => ?_) (fun c_6 => ?_)
    ·
      obtain ⟨k1, hk1, rfl⟩ := cnt_one hA (by omega) hA0 (by omega)
      obtain ⟨k2, hk2, rfl⟩ := cnt_one hB (by omega) hB0 (by omega)
      have hv1 := hv k1
      have hv2 := hv k2
      refine v_aload_n C dX6_isWrong_25 rfl 0 rfl ?_
      refine v_lload_n C dX6_isWrong_26 rfl 2 rfl ?_
      refine v_lload C dX6_isWrong_27 3 rfl ?_
      refine v_iconst C (z := 0) dX6_isWrong_29 ?_
      refine v_invVI C (As := [.long (loM (2 ^ k1)), .long (hiM (2 ^ k1)), .int (iI (0))]) (q0 := 0) (ci := 6) (kX6_sideOf l g (mm := mm) (b1 := b1) (b2 := b2) (b3 := b3) (b4 := b4) (b5 := b5) (b6 := b6) (b7 := b7) (b8 := b8) (b9 := b9) (b10 := b10) (b11 := b11) (b12 := b12) (b13 := b13) (b14 := b14) (b15 := b15) (b16 := b16) (b17 := b17) (kinds := kinds) (tgs := tgs) (first := first) (second := second) (vals := vals) (qs := qs) (hds := hds) (An := An) (qi := qi) (qo := qo) (Tm := Tm) (Nw := Nw) (Kw := Kw) (ni := ni) (bc := bc) (cm := cm) (cn := cn) (qc := qc) (cd := cd) (ris := ris) (S := 2 ^ k1) (ix := 0) hpal hA (b31_lit _ rfl)) (cwV 3 C.2.2.2.2.1 gX6_isWrong_X6_sideOf rfl rfl rfl (by decide +kernel) ⟨Nat.le_of_ble_eq_true rfl, Nat.le_of_ble_eq_true rfl⟩) [wMM g mm b1 b2 b3 b4 b5 b6 b7 b8 b9 b10 b11 b12 b13 b14 b15 b16 b17 kinds ni cm first second An An Tm Tm bc hds tgs qc qi qo qs cn vals Nw Nw Kw Kw cd] [0] [] [] (fun _ => [wMM g mm b1 b2 b3 b4 b5 b6 b7 b8 b9 b10 b11 b12 b13 b14 b15 b16 b17 kinds ni cm first second An An Tm Tm bc hds tgs qc qi qo qs cn vals Nw Nw Kw Kw cd]) (fun _ => wMM g mm b1 b2 b3 b4 b5 b6 b7 b8 b9 b10 b11 b12 b13 b14 b15 b16 b17 kinds ni cm first second An An Tm Tm bc hds tgs qc qi qo qs cn vals Nw Nw Kw Kw cd ++ ([])) rfl rfl rfl (fun _ => rfl) (fun _ => rfl) (fun _ => rfl) (fun _ => rfl) rfl rfl rfl rfl rfl (Nat.le_of_ble_eq_true rfl) dX6_isWrong_30 ⟨by decide, by decide⟩ (fun r_8 _ h_7 => ?_)
      subst h_7
      rw [sIx_pow hpal hk1]
      refine v_istore C [(10, .int (iI ((k1 : Nat) : Int))), (0, .ref (mm)), (1, .int (iI ((q0 : Nat) : Int))), (2, .long (loM (2 ^ k1))), (4, .long (hiM (2 ^ k1))), (6, .long (loM (2 ^ k2))), (8, .long (hiM (2 ^ k2)))] dX6_isWrong_33 (by decide) rfl ?_
      refine v_aload_n C dX6_isWrong_35 rfl 1 rfl ?_
      refine v_lload C dX6_isWrong_36 5 rfl ?_
      refine v_lload C dX6_isWrong_38 6 rfl ?_
      refine v_iconst C (z := 0) dX6_isWrong_40 ?_
      refine v_invVI C (As := [.long (loM (2 ^ k2)), .long (hiM (2 ^ k2)), .int (iI (0))]) (q0 := 0) (ci := 6) (kX6_sideOf l g (mm := mm) (b1 := b1) (b2 := b2) (b3 := b3) (b4 := b4) (b5 := b5) (b6 := b6) (b7 := b7) (b8 := b8) (b9 := b9) (b10 := b10) (b11 := b11) (b12 := b12) (b13 := b13) (b14 := b14) (b15 := b15) (b16 := b16) (b17 := b17) (kinds := kinds) (tgs := tgs) (first := first) (second := second) (vals := vals) (qs := qs) (hds := hds) (An := An) (qi := qi) (qo := qo) (Tm := Tm) (Nw := Nw) (Kw := Kw) (ni := ni) (bc := bc) (cm := cm) (cn := cn) (qc := qc) (cd := cd) (ris := ris) (S := 2 ^ k2) (ix := 0) hpal hB (b31_lit _ rfl)) (cwV 3 C.2.2.2.2.1 gX6_isWrong_X6_sideOf rfl rfl rfl (by decide +kernel) ⟨Nat.le_of_ble_eq_true rfl, Nat.le_of_ble_eq_true rfl⟩) [wMM g mm b1 b2 b3 b4 b5 b6 b7 b8 b9 b10 b11 b12 b13 b14 b15 b16 b17 kinds ni cm first second An An Tm Tm bc hds tgs qc qi qo qs cn vals Nw Nw Kw Kw cd] [0] [] [] (fun _ => [wMM g mm b1 b2 b3 b4 b5 b6 b7 b8 b9 b10 b11 b12 b13 b14 b15 b16 b17 kinds ni cm first second An An Tm Tm bc hds tgs qc qi qo qs cn vals Nw Nw Kw Kw cd]) (fun _ => wMM g mm b1 b2 b3 b4 b5 b6 b7 b8 b9 b10 b11 b12 b13 b14 b15 b16 b17 kinds ni cm first second An An Tm Tm bc hds tgs qc qi qo qs cn vals Nw Nw Kw Kw cd ++ ([])) rfl rfl rfl (fun _ => rfl) (fun _ => rfl) (fun _ => rfl) (fun _ => rfl) rfl rfl rfl rfl rfl (Nat.le_of_ble_eq_true rfl) dX6_isWrong_41 ⟨by decide, by decide⟩ (fun r_10 _ h_9 => ?_)
      subst h_9
      rw [sIx_pow hpal hk2]
      refine v_istore C [(11, .int (iI ((k2 : Nat) : Int))), (10, .int (iI ((k1 : Nat) : Int))), (0, .ref (mm)), (1, .int (iI ((q0 : Nat) : Int))), (2, .long (loM (2 ^ k1))), (4, .long (hiM (2 ^ k1))), (6, .long (loM (2 ^ k2))), (8, .long (hiM (2 ^ k2)))] dX6_isWrong_44 (by decide) rfl ?_
      refine v_iload C dX6_isWrong_46 1 rfl ?_
      refine v_if_eq C 56 dX6_isWrong_48 (by decide) ⟨by omega, by omega⟩ (fun c_11 => ?_) (fun c_11 => ?_)
      ·
        refine v_iload C dX6_isWrong_56 1 rfl ?_
        refine v_iload C dX6_isWrong_58 0 rfl ?_
        refine v_icmp_eq C 67 dX6_isWrong_60 (by decide) ⟨by omega, by omega⟩ ⟨by omega, by omega⟩ (fun c_12 => ?_) (fun c_12 => ?_)
        ·
          refine v_iconst C (z := 0) dX6_isWrong_67 ?_
          refine v_goto C 100 dX6_isWrong_68 (by decide) ?_
          exact (v_zret C hr hl () rfl (by decide) (by decide) rfl (bz_df (by rw [qst_p hpal hk1 hk2, if_pos (by omega), if_pos (by omega)]; decide)) dX6_isWrong_100)
        ·
          refine v_iconst C (z := 1) dX6_isWrong_63 ?_
          refine v_goto C 100 dX6_isWrong_64 (by decide) ?_
          exact (v_zret C hr hl () rfl (by decide) (by decide) rfl (bz_dt (by rw [qst_p hpal hk1 hk2, if_pos (by omega), if_neg (by omega)])) dX6_isWrong_100)
      ·
        refine v_iload C dX6_isWrong_51 0 rfl ?_
        refine v_if_ne C 71 dX6_isWrong_53 (by decide) ⟨by omega, by omega⟩ (fun c_13 => ?_) (fun c_13 => ?_)
        ·
          refine v_aload_n C dX6_isWrong_71 rfl 2 rfl ?_
          refine v_get C 0 (kf := 17) rfl rfl (by decide) inX6_isWrong_6 lkX6_isWrong_58 rfl rfl dX6_isWrong_72 ?_
          refine v_iload C dX6_isWrong_75 1 rfl ?_
          refine v_iald C 13 (k1) rfl rfl (by omega) (by decide) dX6_isWrong_77 ?_
          refine v_aload_n C dX6_isWrong_78 rfl 2 rfl ?_
          refine v_get C 0 (kf := 17) rfl rfl (by decide) inX6_isWrong_6 lkX6_isWrong_58 rfl rfl dX6_isWrong_79 ?_
          refine v_iload C dX6_isWrong_82 0 rfl ?_
          refine v_iald C 13 (k2) rfl rfl (by omega) (by decide) dX6_isWrong_84 ?_
          refine v_aload_n C dX6_isWrong_85 rfl 2 rfl ?_
          refine v_get C 0 (kf := 15) rfl rfl (by decide) inX6_isWrong_6 lkX6_isWrong_52 rfl rfl dX6_isWrong_86 ?_
          refine v_iload_n C dX6_isWrong_89 rfl 3 rfl ?_
          refine v_iald C 12 (q0) rfl rfl (by omega) (by decide) dX6_isWrong_90 ?_
          refine v_iadd C dX6_isWrong_91 ?_
          refine v_icmp_eq C 99 dX6_isWrong_92 (by decide) ⟨by omega, by omega⟩ ⟨by omega, by omega⟩ (fun c_14 => ?_) (fun c_14 => ?_)
          ·
            refine v_iconst C (z := 0) dX6_isWrong_99 ?_
            exact (v_zret C hr hl () rfl (by decide) (by decide) rfl (bz_df (by rw [qst_p hpal hk1 hk2, if_neg (by omega), if_pos (by omega)]; decide)) dX6_isWrong_100)
          ·
            refine v_iconst C (z := 1) dX6_isWrong_95 ?_
            refine v_goto C 100 dX6_isWrong_96 (by decide) ?_
            exact (v_zret C hr hl () rfl (by decide) (by decide) rfl (bz_dt (by rw [qst_p hpal hk1 hk2, if_neg (by omega), if_neg (by omega)])) dX6_isWrong_100)
        ·
          refine v_iload C dX6_isWrong_56 1 rfl ?_
          refine v_iload C dX6_isWrong_58 0 rfl ?_
          refine v_icmp_eq C 67 dX6_isWrong_60 (by decide) ⟨by omega, by omega⟩ ⟨by omega, by omega⟩ (fun c_15 => ?_) (fun c_15 => ?_)
          ·
            refine v_iconst C (z := 0) dX6_isWrong_67 ?_
            refine v_goto C 100 dX6_isWrong_68 (by decide) ?_
            exact (v_zret C hr hl () rfl (by decide) (by decide) rfl (bz_df (by rw [qst_p hpal hk1 hk2, if_pos (by omega), if_pos (by omega)]; decide)) dX6_isWrong_100)
          ·
            refine v_iconst C (z := 1) dX6_isWrong_63 ?_
            refine v_goto C 100 dX6_isWrong_64 (by decide) ?_
            exact (v_zret C hr hl () rfl (by decide) (by decide) rfl (bz_dt (by rw [qst_p hpal hk1 hk2, if_pos (by omega), if_neg (by omega)])) dX6_isWrong_100)
    ·
      refine v_iconst C (z := 0) dX6_isWrong_23 ?_
      exact (v_zret C hr hl () rfl (by decide) (by decide) rfl (bz_df (qst_open (Or.inr (by omega)))) dX6_isWrong_24)
theorem inX6_isWrongIn_6 : ∀ w ∈ u_ws RX6 TX6 23, w ∈ wsX6_isWrongIn := by decide +kernel
theorem lkX6_isWrongIn_46 : Cond.fieldLink RX6 46 "MergeAtelierModel" "quoteItems" "[I" ∈ wsX6_isWrongIn := by decide +kernel
theorem lkX6_isWrongIn_49 : Cond.fieldLink RX6 49 "MergeAtelierModel" "quoteOthers" "[I" ∈ wsX6_isWrongIn := by decide +kernel
theorem lkX6_isWrongIn_31 : Cond.fieldLink RX6 31 "MergeAtelierModel" "low" "[J" ∈ wsX6_isWrongIn := by decide +kernel
theorem lkX6_isWrongIn_34 : Cond.fieldLink RX6 34 "MergeAtelierModel" "high" "[J" ∈ wsX6_isWrongIn := by decide +kernel
set_option maxHeartbeats 4000000 in
set_option maxRecDepth 100000 in
theorem kX6_isWrongIn (l : Launch) (g : vG) {mm b1 b2 b3 b4 b5 b6 b7 b8 b9 b10 b11 b12 b13 b14 b15 b16 b17 : Nat} {kinds tgs first second vals qs : Nat → Int} {hds An qi qo Tm Nw Kw ris : Nat → Nat} {ni bc cm cn qc cd : Nat} {q0 c0 : Nat} (hI : MI vals ris cn kinds tgs first second qs hds An qi qo Tm ni bc cm qc) (hq0 : q0 < qc) (hc0 : c0 < cm) : mI l g yX6_isWrongIn wsX6_isWrongIn ({ frames := 3, cells := 0, slots := 0, locals := 83 }) [.ref (mm), .int (iI ((q0 : Nat) : Int)), .int (iI ((c0 : Nat) : Int))] (wMM g mm b1 b2 b3 b4 b5 b6 b7 b8 b9 b10 b11 b12 b13 b14 b15 b16 b17 kinds ni cm first second An An Tm Tm bc hds tgs qc qi qo qs cn vals Nw Nw Kw Kw cd ++ ([])) (fun _ : Unit => wMM g mm b1 b2 b3 b4 b5 b6 b7 b8 b9 b10 b11 b12 b13 b14 b15 b16 b17 kinds ni cm first second An An Tm Tm bc hds tgs qc qi qo qs cn vals Nw Nw Kw Kw cd ++ ([])) (fun v _ => v = iI (bZ (decide (qst vals cn (qs q0) (Tm (12 * c0 + qi q0)) (Tm (12 * c0 + qo q0)) = 1)))) 0 0 := by
  refine mI_of (cc := cX6_isWrongIn) (maxL := 5) (ret := (some .boolean)) (own := RX6) (by decide) rfl rfl (Nat.le_of_ble_eq_true rfl) ?_
  intro p e s m args below meth c A C hr hl hin
  obtain ⟨hni, hbc1, hbc, hcm1, hcm, hcn1, hnm, hqc, hhd, htg, hf, hs, hfc, hsc, hAn, hTm, hao, hpal, hqb, hqi, htk, hkd⟩ := id hI
  obtain ⟨hb1, hb2, hb3, hb4⟩ := hqb q0 (by omega)
  obtain ⟨hq1, hq2⟩ := hqi q0 hq0
  refine v_iload_n C dX6_isWrongIn_0 rfl 2 rfl ?_
  refine v_aload_n C dX6_isWrongIn_1 rfl 0 rfl ?_
  refine v_get C 0 (kf := 13) rfl rfl (by decide) inX6_isWrongIn_6 lkX6_isWrongIn_46 rfl rfl dX6_isWrongIn_2 ?_
  refine v_iload_n C dX6_isWrongIn_5 rfl 1 rfl ?_
  refine v_ialdn C 10 (q0) rfl rfl (by omega) (by decide) dX6_isWrongIn_6 ?_
  refine v_invSI C (As := [.int (iI ((c0 : Nat) : Int)), .int (iI ((qi (q0) : Nat) : Int))]) (kX6_at l g  (r0 := c0) (i0 := qi (q0)) ) (cwS 2 C.2.2.2.2.1 gX6_isWrongIn_X6_at rfl rfl rfl (by decide +kernel) ⟨Nat.le_of_ble_eq_true rfl, Nat.le_of_ble_eq_true rfl⟩) [wMM g mm b1 b2 b3 b4 b5 b6 b7 b8 b9 b10 b11 b12 b13 b14 b15 b16 b17 kinds ni cm first second An An Tm Tm bc hds tgs qc qi qo qs cn vals Nw Nw Kw Kw cd] [] [0] [] (fun _ => [wMM g mm b1 b2 b3 b4 b5 b6 b7 b8 b9 b10 b11 b12 b13 b14 b15 b16 b17 kinds ni cm first second An An Tm Tm bc hds tgs qc qi qo qs cn vals Nw Nw Kw Kw cd]) (fun _ => wMM g mm b1 b2 b3 b4 b5 b6 b7 b8 b9 b10 b11 b12 b13 b14 b15 b16 b17 kinds ni cm first second An An Tm Tm bc hds tgs qc qi qo qs cn vals Nw Nw Kw Kw cd ++ ([])) rfl rfl rfl (fun _ => rfl) (fun _ => rfl) (fun _ => rfl) (fun _ => rfl) rfl rfl (Nat.le_of_ble_eq_true rfl) dX6_isWrongIn_7 ⟨by decide, by decide⟩ (fun r_2 _ h_1 => ?_)
  subst h_1
  refine v_istore_n C [(3, .int (iI ((12 * c0 + (qi (q0)) : Nat) : Int))), (0, .ref (mm)), (1, .int (iI ((q0 : Nat) : Int))), (2, .int (iI ((c0 : Nat) : Int)))] dX6_isWrongIn_10 rfl (by decide) rfl ?_
  refine v_iload_n C dX6_isWrongIn_11 rfl 3 rfl ?_
  refine v_aload_n C dX6_isWrongIn_12 rfl 1 rfl ?_
  refine v_get C 0 (kf := 14) rfl rfl (by decide) inX6_isWrongIn_6 lkX6_isWrongIn_49 rfl rfl dX6_isWrongIn_13 ?_
  refine v_iload_n C dX6_isWrongIn_16 rfl 2 rfl ?_
  refine v_ialdn C 11 (q0) rfl rfl (by omega) (by decide) dX6_isWrongIn_17 ?_
  refine v_invSI C (As := [.int (iI ((c0 : Nat) : Int)), .int (iI ((qo (q0) : Nat) : Int))]) (kX6_at l g  (r0 := c0) (i0 := qo (q0)) ) (cwS 2 C.2.2.2.2.1 gX6_isWrongIn_X6_at rfl rfl rfl (by decide +kernel) ⟨Nat.le_of_ble_eq_true rfl, Nat.le_of_ble_eq_true rfl⟩) [wMM g mm b1 b2 b3 b4 b5 b6 b7 b8 b9 b10 b11 b12 b13 b14 b15 b16 b17 kinds ni cm first second An An Tm Tm bc hds tgs qc qi qo qs cn vals Nw Nw Kw Kw cd] [] [0] [] (fun _ => [wMM g mm b1 b2 b3 b4 b5 b6 b7 b8 b9 b10 b11 b12 b13 b14 b15 b16 b17 kinds ni cm first second An An Tm Tm bc hds tgs qc qi qo qs cn vals Nw Nw Kw Kw cd]) (fun _ => wMM g mm b1 b2 b3 b4 b5 b6 b7 b8 b9 b10 b11 b12 b13 b14 b15 b16 b17 kinds ni cm first second An An Tm Tm bc hds tgs qc qi qo qs cn vals Nw Nw Kw Kw cd ++ ([])) rfl rfl rfl (fun _ => rfl) (fun _ => rfl) (fun _ => rfl) (fun _ => rfl) rfl rfl (Nat.le_of_ble_eq_true rfl) dX6_isWrongIn_18 ⟨by decide, by decide⟩ (fun r_4 _ h_3 => ?_)
  subst h_3
  refine v_istore C [(4, .int (iI ((12 * c0 + (qo (q0)) : Nat) : Int))), (3, .int (iI ((12 * c0 + (qi (q0)) : Nat) : Int))), (0, .ref (mm)), (1, .int (iI ((q0 : Nat) : Int))), (2, .int (iI ((c0 : Nat) : Int)))] dX6_isWrongIn_21 (by decide) rfl ?_
  refine v_aload_n C dX6_isWrongIn_23 rfl 2 rfl ?_
  refine v_iload_n C dX6_isWrongIn_24 rfl 3 rfl ?_
  refine v_aload_n C dX6_isWrongIn_25 rfl 2 rfl ?_
  refine v_get C 0 (kf := 7) rfl rfl (by decide) inX6_isWrongIn_6 lkX6_isWrongIn_31 rfl rfl dX6_isWrongIn_26 ?_
  refine v_iload_n C dX6_isWrongIn_29 rfl 1 rfl ?_
  refine v_lald C 6 (12 * c0 + (qi (q0))) rfl rfl (by omega) (by decide) dX6_isWrongIn_30 ?_
  refine v_aload_n C dX6_isWrongIn_31 rfl 2 rfl ?_
  refine v_get C 0 (kf := 8) rfl rfl (by decide) inX6_isWrongIn_6 lkX6_isWrongIn_34 rfl rfl dX6_isWrongIn_32 ?_
  refine v_iload_n C dX6_isWrongIn_35 rfl 1 rfl ?_
  refine v_lald C 7 (12 * c0 + (qi (q0))) rfl rfl (by omega) (by decide) dX6_isWrongIn_36 ?_
  refine v_aload_n C dX6_isWrongIn_37 rfl 2 rfl ?_
  refine v_get C 0 (kf := 7) rfl rfl (by decide) inX6_isWrongIn_6 lkX6_isWrongIn_31 rfl rfl dX6_isWrongIn_38 ?_
  refine v_iload C dX6_isWrongIn_41 0 rfl ?_
  refine v_lald C 6 (12 * c0 + (qo (q0))) rfl rfl (by omega) (by decide) dX6_isWrongIn_43 ?_
  refine v_aload_n C dX6_isWrongIn_44 rfl 2 rfl ?_
  refine v_get C 0 (kf := 8) rfl rfl (by decide) inX6_isWrongIn_6 lkX6_isWrongIn_34 rfl rfl dX6_isWrongIn_45 ?_
  refine v_iload C dX6_isWrongIn_48 0 rfl ?_
  refine v_lald C 7 (12 * c0 + (qo (q0))) rfl rfl (by omega) (by decide) dX6_isWrongIn_50 ?_
  refine v_invVI C (As := [.int (iI ((q0 : Nat) : Int)), .long (loM (Tm (12 * c0 + (qi (q0))))), .long (hiM (Tm (12 * c0 + (qi (q0))))), .long (loM (Tm (12 * c0 + (qo (q0))))), .long (hiM (Tm (12 * c0 + (qo (q0)))))]) (q0 := 0) (ci := 6) (kX6_isWrong l g (mm := mm) (b1 := b1) (b2 := b2) (b3 := b3) (b4 := b4) (b5 := b5) (b6 := b6) (b7 := b7) (b8 := b8) (b9 := b9) (b10 := b10) (b11 := b11) (b12 := b12) (b13 := b13) (b14 := b14) (b15 := b15) (b16 := b16) (b17 := b17) (kinds := kinds) (tgs := tgs) (first := first) (second := second) (vals := vals) (qs := qs) (hds := hds) (An := An) (qi := qi) (qo := qo) (Tm := Tm) (Nw := Nw) (Kw := Kw) (ni := ni) (bc := bc) (cm := cm) (cn := cn) (qc := qc) (cd := cd) (ris := ris) (q0 := q0) (Sa := Tm (12 * c0 + (qi (q0)))) (Sb := Tm (12 * c0 + (qo (q0)))) (by omega) hpal hqb (htk c0 hc0 _ hq1).1 (htk c0 hc0 _ hq1).2 (htk c0 hc0 _ hq2).1 (htk c0 hc0 _ hq2).2) (cwV 5 C.2.2.2.2.1 gX6_isWrongIn_X6_isWrong rfl rfl rfl (by decide +kernel) ⟨Nat.le_of_ble_eq_true rfl, Nat.le_of_ble_eq_true rfl⟩) [wMM g mm b1 b2 b3 b4 b5 b6 b7 b8 b9 b10 b11 b12 b13 b14 b15 b16 b17 kinds ni cm first second An An Tm Tm bc hds tgs qc qi qo qs cn vals Nw Nw Kw Kw cd] [0] [] [] (fun _ => [wMM g mm b1 b2 b3 b4 b5 b6 b7 b8 b9 b10 b11 b12 b13 b14 b15 b16 b17 kinds ni cm first second An An Tm Tm bc hds tgs qc qi qo qs cn vals Nw Nw Kw Kw cd]) (fun _ => wMM g mm b1 b2 b3 b4 b5 b6 b7 b8 b9 b10 b11 b12 b13 b14 b15 b16 b17 kinds ni cm first second An An Tm Tm bc hds tgs qc qi qo qs cn vals Nw Nw Kw Kw cd ++ ([])) rfl rfl rfl (fun _ => rfl) (fun _ => rfl) (fun _ => rfl) (fun _ => rfl) rfl rfl rfl rfl rfl (Nat.le_of_ble_eq_true rfl) dX6_isWrongIn_51 ⟨by decide, by decide⟩ (fun r_6 _ h_5 => ?_)
  subst h_5
  exact (v_zret C hr hl () (bZ_nar _) (by decide) (by decide) rfl rfl dX6_isWrongIn_54)
theorem inX6_isOpenIn_6 : ∀ w ∈ u_ws RX6 TX6 23, w ∈ wsX6_isOpenIn := by decide +kernel
theorem lkX6_isOpenIn_46 : Cond.fieldLink RX6 46 "MergeAtelierModel" "quoteItems" "[I" ∈ wsX6_isOpenIn := by decide +kernel
theorem lkX6_isOpenIn_49 : Cond.fieldLink RX6 49 "MergeAtelierModel" "quoteOthers" "[I" ∈ wsX6_isOpenIn := by decide +kernel
set_option maxHeartbeats 4000000 in
set_option maxRecDepth 100000 in
theorem kX6_isOpenIn (l : Launch) (g : vG) {mm b1 b2 b3 b4 b5 b6 b7 b8 b9 b10 b11 b12 b13 b14 b15 b16 b17 : Nat} {kinds tgs first second vals qs : Nat → Int} {hds An qi qo Tm Nw Kw ris : Nat → Nat} {ni bc cm cn qc cd : Nat} {q0 c0 : Nat} (hI : MI vals ris cn kinds tgs first second qs hds An qi qo Tm ni bc cm qc) (hq0 : q0 < qc) (hc0 : c0 < cm) : mI l g yX6_isOpenIn wsX6_isOpenIn ({ frames := 3, cells := 0, slots := 0, locals := 72 }) [.ref (mm), .int (iI ((q0 : Nat) : Int)), .int (iI ((c0 : Nat) : Int))] (wMM g mm b1 b2 b3 b4 b5 b6 b7 b8 b9 b10 b11 b12 b13 b14 b15 b16 b17 kinds ni cm first second An An Tm Tm bc hds tgs qc qi qo qs cn vals Nw Nw Kw Kw cd ++ ([])) (fun _ : Unit => wMM g mm b1 b2 b3 b4 b5 b6 b7 b8 b9 b10 b11 b12 b13 b14 b15 b16 b17 kinds ni cm first second An An Tm Tm bc hds tgs qc qi qo qs cn vals Nw Nw Kw Kw cd ++ ([])) (fun v _ => v = iI (bZ (decide (1 < cnt (Tm (12 * c0 + qi q0)) ∨ 1 < cnt (Tm (12 * c0 + qo q0)))))) 0 0 := by
  refine mI_of (cc := cX6_isOpenIn) (maxL := 3) (ret := (some .boolean)) (own := RX6) (by decide) rfl rfl (Nat.le_of_ble_eq_true rfl) ?_
  intro p e s m args below meth c A C hr hl hin
  obtain ⟨hni, hbc1, hbc, hcm1, hcm, hcn1, hnm, hqc, hhd, htg, hf, hs, hfc, hsc, hAn, hTm, hao, hpal, hqb, hqi, htk, hkd⟩ := id hI
  obtain ⟨hb1, hb2, hb3, hb4⟩ := hqb q0 (by omega)
  obtain ⟨hq1, hq2⟩ := hqi q0 hq0
  refine v_aload_n C dX6_isOpenIn_0 rfl 0 rfl ?_
  refine v_iload_n C dX6_isOpenIn_1 rfl 2 rfl ?_
  refine v_aload_n C dX6_isOpenIn_2 rfl 0 rfl ?_
  refine v_get C 0 (kf := 13) rfl rfl (by decide) inX6_isOpenIn_6 lkX6_isOpenIn_46 rfl rfl dX6_isOpenIn_3 ?_
  refine v_iload_n C dX6_isOpenIn_6 rfl 1 rfl ?_
  refine v_ialdn C 10 (q0) rfl rfl (by omega) (by decide) dX6_isOpenIn_7 ?_
  refine v_invVI C (As := [.int (iI ((c0 : Nat) : Int)), .int (iI ((qi (q0) : Nat) : Int))]) (q0 := 0) (ci := 6) (kX6_sidesIn l g (mm := mm) (b1 := b1) (b2 := b2) (b3 := b3) (b4 := b4) (b5 := b5) (b6 := b6) (b7 := b7) (b8 := b8) (b9 := b9) (b10 := b10) (b11 := b11) (b12 := b12) (b13 := b13) (b14 := b14) (b15 := b15) (b16 := b16) (b17 := b17) (kinds := kinds) (tgs := tgs) (first := first) (second := second) (vals := vals) (qs := qs) (hds := hds) (An := An) (qi := qi) (qo := qo) (Tm := Tm) (Nw := Nw) (Kw := Kw) (ni := ni) (bc := bc) (cm := cm) (cn := cn) (qc := qc) (cd := cd) (ris := ris) (c0 := c0) (i0 := qi (q0)) (by omega) (by omega) (by omega) (htk.lt (by omega) (by omega))) (cwV 2 C.2.2.2.2.1 gX6_isOpenIn_X6_sidesIn rfl rfl rfl (by decide +kernel) ⟨Nat.le_of_ble_eq_true rfl, Nat.le_of_ble_eq_true rfl⟩) [wMM g mm b1 b2 b3 b4 b5 b6 b7 b8 b9 b10 b11 b12 b13 b14 b15 b16 b17 kinds ni cm first second An An Tm Tm bc hds tgs qc qi qo qs cn vals Nw Nw Kw Kw cd] [0] [] [] (fun _ => [wMM g mm b1 b2 b3 b4 b5 b6 b7 b8 b9 b10 b11 b12 b13 b14 b15 b16 b17 kinds ni cm first second An An Tm Tm bc hds tgs qc qi qo qs cn vals Nw Nw Kw Kw cd]) (fun _ => wMM g mm b1 b2 b3 b4 b5 b6 b7 b8 b9 b10 b11 b12 b13 b14 b15 b16 b17 kinds ni cm first second An An Tm Tm bc hds tgs qc qi qo qs cn vals Nw Nw Kw Kw cd ++ ([])) rfl rfl rfl (fun _ => rfl) (fun _ => rfl) (fun _ => rfl) (fun _ => rfl) rfl rfl rfl rfl rfl (Nat.le_of_ble_eq_true rfl) dX6_isOpenIn_8 ⟨by decide, by decide⟩ (fun r_2 _ h_1 => ?_)
  subst h_1
  refine v_iconst C (z := 1) dX6_isOpenIn_11 ?_
  refine v_icmp_gt C 30 dX6_isOpenIn_12 (by decide) (cnt31 _) (b31_lit _ rfl) (fun c_3 => ?_) (fun c_3 => ?_)
  ·
    refine v_iconst C (z := 1) dX6_isOpenIn_30 ?_
    refine v_goto C 35 dX6_isOpenIn_31 (by decide) ?_
    exact (v_zret C hr hl () rfl (by decide) (by decide) rfl (bz_dt (by omega)) dX6_isOpenIn_35)
  ·
    refine v_aload_n C dX6_isOpenIn_15 rfl 0 rfl ?_
    refine v_iload_n C dX6_isOpenIn_16 rfl 2 rfl ?_
    refine v_aload_n C dX6_isOpenIn_17 rfl 0 rfl ?_
    refine v_get C 0 (kf := 14) rfl rfl (by decide) inX6_isOpenIn_6 lkX6_isOpenIn_49 rfl rfl dX6_isOpenIn_18 ?_
    refine v_iload_n C dX6_isOpenIn_21 rfl 1 rfl ?_
    refine v_ialdn C 11 (q0) rfl rfl (by omega) (by decide) dX6_isOpenIn_22 ?_
    refine v_invVI C (As := [.int (iI ((c0 : Nat) : Int)), .int (iI ((qo (q0) : Nat) : Int))]) (q0 := 0) (ci := 6) (kX6_sidesIn l g (mm := mm) (b1 := b1) (b2 := b2) (b3 := b3) (b4 := b4) (b5 := b5) (b6 := b6) (b7 := b7) (b8 := b8) (b9 := b9) (b10 := b10) (b11 := b11) (b12 := b12) (b13 := b13) (b14 := b14) (b15 := b15) (b16 := b16) (b17 := b17) (kinds := kinds) (tgs := tgs) (first := first) (second := second) (vals := vals) (qs := qs) (hds := hds) (An := An) (qi := qi) (qo := qo) (Tm := Tm) (Nw := Nw) (Kw := Kw) (ni := ni) (bc := bc) (cm := cm) (cn := cn) (qc := qc) (cd := cd) (ris := ris) (c0 := c0) (i0 := qo (q0)) (by omega) (by omega) (by omega) (htk.lt (by omega) (by omega))) (cwV 2 C.2.2.2.2.1 gX6_isOpenIn_X6_sidesIn rfl rfl rfl (by decide +kernel) ⟨Nat.le_of_ble_eq_true rfl, Nat.le_of_ble_eq_true rfl⟩) [wMM g mm b1 b2 b3 b4 b5 b6 b7 b8 b9 b10 b11 b12 b13 b14 b15 b16 b17 kinds ni cm first second An An Tm Tm bc hds tgs qc qi qo qs cn vals Nw Nw Kw Kw cd] [0] [] [] (fun _ => [wMM g mm b1 b2 b3 b4 b5 b6 b7 b8 b9 b10 b11 b12 b13 b14 b15 b16 b17 kinds ni cm first second An An Tm Tm bc hds tgs qc qi qo qs cn vals Nw Nw Kw Kw cd]) (fun _ => wMM g mm b1 b2 b3 b4 b5 b6 b7 b8 b9 b10 b11 b12 b13 b14 b15 b16 b17 kinds ni cm first second An An Tm Tm bc hds tgs qc qi qo qs cn vals Nw Nw Kw Kw cd ++ ([])) rfl rfl rfl (fun _ => rfl) (fun _ => rfl) (fun _ => rfl) (fun _ => rfl) rfl rfl rfl rfl rfl (Nat.le_of_ble_eq_true rfl) dX6_isOpenIn_23 ⟨by decide, by decide⟩ (fun r_5 _ h_4 => ?_)
    subst h_4
    refine v_iconst C (z := 1) dX6_isOpenIn_26 ?_
    refine v_icmp_le C 34 dX6_isOpenIn_27 (by decide) (cnt31 _) (b31_lit _ rfl) (fun c_6 => ?_) (fun c_6 => ?_)
    ·
      refine v_iconst C (z := 0) dX6_isOpenIn_34 ?_
      exact (v_zret C hr hl () rfl (by decide) (by decide) rfl (bz_df (by omega)) dX6_isOpenIn_35)
    ·
      refine v_iconst C (z := 1) dX6_isOpenIn_30 ?_
      refine v_goto C 35 dX6_isOpenIn_31 (by decide) ?_
      exact (v_zret C hr hl () rfl (by decide) (by decide) rfl (bz_dt (by omega)) dX6_isOpenIn_35)
theorem inX6_unites_6 : ∀ w ∈ u_ws RX6 TX6 23, w ∈ wsX6_unites := by decide +kernel
theorem lkX6_unites_61 : Cond.fieldLink RX6 61 "MergeAtelierModel" "newLow" "[J" ∈ wsX6_unites := by decide +kernel
theorem lkX6_unites_31 : Cond.fieldLink RX6 31 "MergeAtelierModel" "low" "[J" ∈ wsX6_unites := by decide +kernel
theorem lkX6_unites_64 : Cond.fieldLink RX6 64 "MergeAtelierModel" "newHigh" "[J" ∈ wsX6_unites := by decide +kernel
theorem lkX6_unites_34 : Cond.fieldLink RX6 34 "MergeAtelierModel" "high" "[J" ∈ wsX6_unites := by decide +kernel
set_option maxHeartbeats 4000000 in
set_option maxRecDepth 100000 in
theorem kX6_unites (l : Launch) (g : vG) {mm b1 b2 b3 b4 b5 b6 b7 b8 b9 b10 b11 b12 b13 b14 b15 b16 b17 : Nat} {kinds tgs first second vals qs : Nat → Int} {hds An qi qo Tm Nw Kw ris : Nat → Nat} {ni bc cm cn qc cd : Nat} {c0 d0 i0 : Nat} (hc0 : c0 < 100) (hd0 : d0 < 100) (hi0 : i0 < 12) : mV l g yX6_unites wsX6_unites ({ frames := 1, cells := 0, slots := 0, locals := 21 }) [.ref (mm), .int (iI ((c0 : Nat) : Int)), .int (iI ((d0 : Nat) : Int)), .int (iI ((i0 : Nat) : Int))] (wMM g mm b1 b2 b3 b4 b5 b6 b7 b8 b9 b10 b11 b12 b13 b14 b15 b16 b17 kinds ni cm first second An An Tm Tm bc hds tgs qc qi qo qs cn vals Nw Nw Kw Kw cd ++ ([])) (fun _ : Unit => wMM g mm b1 b2 b3 b4 b5 b6 b7 b8 b9 b10 b11 b12 b13 b14 b15 b16 b17 kinds ni cm first second An An Tm Tm bc hds tgs qc qi qo qs cn vals (updN Nw (i0) (Tm (12 * c0 + i0) ||| Tm (12 * d0 + i0))) (updN Nw (i0) (Tm (12 * c0 + i0) ||| Tm (12 * d0 + i0))) Kw Kw cd ++ ([])) (fun _ => True) 0 0 := by
  refine mV_of (cc := cX6_unites) (maxL := 4) (ret := none) (own := RX6) (by decide) rfl rfl (Nat.le_of_ble_eq_true rfl) ?_
  intro p e s m args below meth c A C hr hl hin
  refine v_aload_n C dX6_unites_0 rfl 0 rfl ?_
  refine v_get C 0 (kf := 18) rfl rfl (by decide) inX6_unites_6 lkX6_unites_61 rfl rfl dX6_unites_1 ?_
  refine v_iload_n C dX6_unites_4 rfl 3 rfl ?_
  refine v_aload_n C dX6_unites_5 rfl 0 rfl ?_
  refine v_get C 0 (kf := 7) rfl rfl (by decide) inX6_unites_6 lkX6_unites_31 rfl rfl dX6_unites_6 ?_
  refine v_iload_n C dX6_unites_9 rfl 1 rfl ?_
  refine v_iload_n C dX6_unites_10 rfl 3 rfl ?_
  refine v_invSI C (As := [.int (iI ((c0 : Nat) : Int)), .int (iI ((i0 : Nat) : Int))]) (kX6_at l g  (r0 := c0) (i0 := i0) ) (cwS 2 C.2.2.2.2.1 gX6_unites_X6_at rfl rfl rfl (by decide +kernel) ⟨Nat.le_of_ble_eq_true rfl, Nat.le_of_ble_eq_true rfl⟩) [wMM g mm b1 b2 b3 b4 b5 b6 b7 b8 b9 b10 b11 b12 b13 b14 b15 b16 b17 kinds ni cm first second An An Tm Tm bc hds tgs qc qi qo qs cn vals Nw Nw Kw Kw cd] [] [0] [.ref (b6), .int (iI ((i0 : Nat) : Int)), .ref (b14)] (fun _ => [wMM g mm b1 b2 b3 b4 b5 b6 b7 b8 b9 b10 b11 b12 b13 b14 b15 b16 b17 kinds ni cm first second An An Tm Tm bc hds tgs qc qi qo qs cn vals Nw Nw Kw Kw cd]) (fun _ => wMM g mm b1 b2 b3 b4 b5 b6 b7 b8 b9 b10 b11 b12 b13 b14 b15 b16 b17 kinds ni cm first second An An Tm Tm bc hds tgs qc qi qo qs cn vals Nw Nw Kw Kw cd ++ ([])) rfl rfl rfl (fun _ => rfl) (fun _ => rfl) (fun _ => rfl) (fun _ => rfl) rfl rfl (Nat.le_of_ble_eq_true rfl) dX6_unites_11 ⟨by decide, by decide⟩ (fun r_2 _ h_1 => ?_)
  subst h_1
  refine v_lald C 6 (12 * c0 + i0) rfl rfl (by omega) (by decide) dX6_unites_14 ?_
  refine v_aload_n C dX6_unites_15 rfl 0 rfl ?_
  refine v_get C 0 (kf := 7) rfl rfl (by decide) inX6_unites_6 lkX6_unites_31 rfl rfl dX6_unites_16 ?_
  refine v_iload_n C dX6_unites_19 rfl 2 rfl ?_
  refine v_iload_n C dX6_unites_20 rfl 3 rfl ?_
  refine v_invSI C (As := [.int (iI ((d0 : Nat) : Int)), .int (iI ((i0 : Nat) : Int))]) (kX6_at l g  (r0 := d0) (i0 := i0) ) (cwS 2 C.2.2.2.2.1 gX6_unites_X6_at rfl rfl rfl (by decide +kernel) ⟨Nat.le_of_ble_eq_true rfl, Nat.le_of_ble_eq_true rfl⟩) [wMM g mm b1 b2 b3 b4 b5 b6 b7 b8 b9 b10 b11 b12 b13 b14 b15 b16 b17 kinds ni cm first second An An Tm Tm bc hds tgs qc qi qo qs cn vals Nw Nw Kw Kw cd] [] [0] [.ref (b6), .long (loM (Tm (12 * c0 + i0))), .int (iI ((i0 : Nat) : Int)), .ref (b14)] (fun _ => [wMM g mm b1 b2 b3 b4 b5 b6 b7 b8 b9 b10 b11 b12 b13 b14 b15 b16 b17 kinds ni cm first second An An Tm Tm bc hds tgs qc qi qo qs cn vals Nw Nw Kw Kw cd]) (fun _ => wMM g mm b1 b2 b3 b4 b5 b6 b7 b8 b9 b10 b11 b12 b13 b14 b15 b16 b17 kinds ni cm first second An An Tm Tm bc hds tgs qc qi qo qs cn vals Nw Nw Kw Kw cd ++ ([])) rfl rfl rfl (fun _ => rfl) (fun _ => rfl) (fun _ => rfl) (fun _ => rfl) rfl rfl (Nat.le_of_ble_eq_true rfl) dX6_unites_21 ⟨by decide, by decide⟩ (fun r_4 _ h_3 => ?_)
  subst h_3
  refine v_lald C 6 (12 * d0 + i0) rfl rfl (by omega) (by decide) dX6_unites_24 ?_
  refine v_lor_ml C dX6_unites_25 ?_
  refine v_last C 14 (i0) (xml (updN Nw (i0) ((Tm (12 * c0 + i0)) ||| (Tm (12 * d0 + i0))))) (wMM g mm b1 b2 b3 b4 b5 b6 b7 b8 b9 b10 b11 b12 b13 b14 b15 b16 b17 kinds ni cm first second An An Tm Tm bc hds tgs qc qi qo qs cn vals (updN Nw (i0) ((Tm (12 * c0 + i0)) ||| (Tm (12 * d0 + i0)))) Nw Kw Kw cd ++ ([])) rfl rfl (by omega) (by decide) dX6_unites_26 (xml_upd _ _ _) rfl ?_
  refine v_aload_n C dX6_unites_27 rfl 0 rfl ?_
  refine v_get C 0 (kf := 19) rfl rfl (by decide) inX6_unites_6 lkX6_unites_64 rfl rfl dX6_unites_28 ?_
  refine v_iload_n C dX6_unites_31 rfl 3 rfl ?_
  refine v_aload_n C dX6_unites_32 rfl 0 rfl ?_
  refine v_get C 0 (kf := 8) rfl rfl (by decide) inX6_unites_6 lkX6_unites_34 rfl rfl dX6_unites_33 ?_
  refine v_iload_n C dX6_unites_36 rfl 1 rfl ?_
  refine v_iload_n C dX6_unites_37 rfl 3 rfl ?_
  refine v_invSI C (As := [.int (iI ((c0 : Nat) : Int)), .int (iI ((i0 : Nat) : Int))]) (kX6_at l g  (r0 := c0) (i0 := i0) ) (cwS 2 C.2.2.2.2.1 gX6_unites_X6_at rfl rfl rfl (by decide +kernel) ⟨Nat.le_of_ble_eq_true rfl, Nat.le_of_ble_eq_true rfl⟩) [wMM g mm b1 b2 b3 b4 b5 b6 b7 b8 b9 b10 b11 b12 b13 b14 b15 b16 b17 kinds ni cm first second An An Tm Tm bc hds tgs qc qi qo qs cn vals (updN Nw (i0) ((Tm (12 * c0 + i0)) ||| (Tm (12 * d0 + i0)))) Nw Kw Kw cd] [] [0] [.ref (b7), .int (iI ((i0 : Nat) : Int)), .ref (b15)] (fun _ => [wMM g mm b1 b2 b3 b4 b5 b6 b7 b8 b9 b10 b11 b12 b13 b14 b15 b16 b17 kinds ni cm first second An An Tm Tm bc hds tgs qc qi qo qs cn vals (updN Nw (i0) ((Tm (12 * c0 + i0)) ||| (Tm (12 * d0 + i0)))) Nw Kw Kw cd]) (fun _ => wMM g mm b1 b2 b3 b4 b5 b6 b7 b8 b9 b10 b11 b12 b13 b14 b15 b16 b17 kinds ni cm first second An An Tm Tm bc hds tgs qc qi qo qs cn vals (updN Nw (i0) ((Tm (12 * c0 + i0)) ||| (Tm (12 * d0 + i0)))) Nw Kw Kw cd ++ ([])) rfl rfl rfl (fun _ => rfl) (fun _ => rfl) (fun _ => rfl) (fun _ => rfl) rfl rfl (Nat.le_of_ble_eq_true rfl) dX6_unites_38 ⟨by decide, by decide⟩ (fun r_6 _ h_5 => ?_)
  subst h_5
  refine v_lald C 7 (12 * c0 + i0) rfl rfl (by omega) (by decide) dX6_unites_41 ?_
  refine v_aload_n C dX6_unites_42 rfl 0 rfl ?_
  refine v_get C 0 (kf := 8) rfl rfl (by decide) inX6_unites_6 lkX6_unites_34 rfl rfl dX6_unites_43 ?_
  refine v_iload_n C dX6_unites_46 rfl 2 rfl ?_
  refine v_iload_n C dX6_unites_47 rfl 3 rfl ?_
  refine v_invSI C (As := [.int (iI ((d0 : Nat) : Int)), .int (iI ((i0 : Nat) : Int))]) (kX6_at l g  (r0 := d0) (i0 := i0) ) (cwS 2 C.2.2.2.2.1 gX6_unites_X6_at rfl rfl rfl (by decide +kernel) ⟨Nat.le_of_ble_eq_true rfl, Nat.le_of_ble_eq_true rfl⟩) [wMM g mm b1 b2 b3 b4 b5 b6 b7 b8 b9 b10 b11 b12 b13 b14 b15 b16 b17 kinds ni cm first second An An Tm Tm bc hds tgs qc qi qo qs cn vals (updN Nw (i0) ((Tm (12 * c0 + i0)) ||| (Tm (12 * d0 + i0)))) Nw Kw Kw cd] [] [0] [.ref (b7), .long (hiM (Tm (12 * c0 + i0))), .int (iI ((i0 : Nat) : Int)), .ref (b15)] (fun _ => [wMM g mm b1 b2 b3 b4 b5 b6 b7 b8 b9 b10 b11 b12 b13 b14 b15 b16 b17 kinds ni cm first second An An Tm Tm bc hds tgs qc qi qo qs cn vals (updN Nw (i0) ((Tm (12 * c0 + i0)) ||| (Tm (12 * d0 + i0)))) Nw Kw Kw cd]) (fun _ => wMM g mm b1 b2 b3 b4 b5 b6 b7 b8 b9 b10 b11 b12 b13 b14 b15 b16 b17 kinds ni cm first second An An Tm Tm bc hds tgs qc qi qo qs cn vals (updN Nw (i0) ((Tm (12 * c0 + i0)) ||| (Tm (12 * d0 + i0)))) Nw Kw Kw cd ++ ([])) rfl rfl rfl (fun _ => rfl) (fun _ => rfl) (fun _ => rfl) (fun _ => rfl) rfl rfl (Nat.le_of_ble_eq_true rfl) dX6_unites_48 ⟨by decide, by decide⟩ (fun r_8 _ h_7 => ?_)
  subst h_7
  refine v_lald C 7 (12 * d0 + i0) rfl rfl (by omega) (by decide) dX6_unites_51 ?_
  refine v_lor_mh C dX6_unites_52 ?_
  refine v_last C 15 (i0) (xmh (updN Nw (i0) ((Tm (12 * c0 + i0)) ||| (Tm (12 * d0 + i0))))) (wMM g mm b1 b2 b3 b4 b5 b6 b7 b8 b9 b10 b11 b12 b13 b14 b15 b16 b17 kinds ni cm first second An An Tm Tm bc hds tgs qc qi qo qs cn vals (updN Nw (i0) ((Tm (12 * c0 + i0)) ||| (Tm (12 * d0 + i0)))) (updN Nw (i0) ((Tm (12 * c0 + i0)) ||| (Tm (12 * d0 + i0)))) Kw Kw cd ++ ([])) rfl rfl (by omega) (by decide) dX6_unites_53 (xmh_upd _ _ _) rfl ?_
  exact (v_vret C hr hl () (by decide) (by decide) rfl trivial dX6_unites_54)
theorem inX6_takes_6 : ∀ w ∈ u_ws RX6 TX6 23, w ∈ wsX6_takes := by decide +kernel
theorem lkX6_takes_76 : Cond.fieldLink RX6 76 "MergeAtelierModel" "items" "I" ∈ wsX6_takes := by decide +kernel
theorem lkX6_takes_31 : Cond.fieldLink RX6 31 "MergeAtelierModel" "low" "[J" ∈ wsX6_takes := by decide +kernel
theorem lkX6_takes_61 : Cond.fieldLink RX6 61 "MergeAtelierModel" "newLow" "[J" ∈ wsX6_takes := by decide +kernel
theorem lkX6_takes_34 : Cond.fieldLink RX6 34 "MergeAtelierModel" "high" "[J" ∈ wsX6_takes := by decide +kernel
theorem lkX6_takes_64 : Cond.fieldLink RX6 64 "MergeAtelierModel" "newHigh" "[J" ∈ wsX6_takes := by decide +kernel
set_option maxHeartbeats 4000000 in
set_option maxRecDepth 100000 in
theorem kX6_takes (l : Launch) (g : vG) {mm b1 b2 b3 b4 b5 b6 b7 b8 b9 b10 b11 b12 b13 b14 b15 b16 b17 : Nat} {kinds tgs first second vals qs : Nat → Int} {hds An qi qo Tm Nw Kw ris : Nat → Nat} {ni bc cm cn qc cd : Nat} {c0 : Nat} (hc0 : c0 < 100) (hni : ni ≤ 12) : mV l g yX6_takes wsX6_takes ({ frames := 1, cells := 0, slots := 0, locals := 21 }) [.ref (mm), .int (iI ((c0 : Nat) : Int))] (wMM g mm b1 b2 b3 b4 b5 b6 b7 b8 b9 b10 b11 b12 b13 b14 b15 b16 b17 kinds ni cm first second An An Tm Tm bc hds tgs qc qi qo qs cn vals Nw Nw Kw Kw cd ++ ([])) (fun _ : Unit => wMM g mm b1 b2 b3 b4 b5 b6 b7 b8 b9 b10 b11 b12 b13 b14 b15 b16 b17 kinds ni cm first second An An (rowP Tm c0 ni Nw) (rowP Tm c0 ni Nw) bc hds tgs qc qi qo qs cn vals Nw Nw Kw Kw cd ++ ([])) (fun _ => True) 0 0 := by
  refine mV_of (cc := cX6_takes) (maxL := 3) (ret := none) (own := RX6) (by decide) rfl rfl (Nat.le_of_ble_eq_true rfl) ?_
  intro p e s m args below meth c A C hr hl hin
  refine v_iconst C (z := 0) dX6_takes_0 ?_
  refine v_istore_n C [(2, .int (iI (0))), (0, .ref (mm)), (1, .int (iI ((c0 : Nat) : Int)))] dX6_takes_1 rfl (by decide) rfl ?_
  refine v_lv (lv' := [(0, .ref (mm)), (1, .int (iI ((c0 : Nat) : Int))), (2, .int (iI ((0 : Nat) : Int)))]) [1, 2, 0] rfl ?_
  refine v_ws (ws' := wMM g mm b1 b2 b3 b4 b5 b6 b7 b8 b9 b10 b11 b12 b13 b14 b15 b16 b17 kinds ni cm first second An An (rowP Tm c0 0 Nw) (rowP Tm c0 0 Nw) bc hds tgs qc qi qo qs cn vals Nw Nw Kw Kw cd ++ ([])) (by rw [rowP_0]) ?_
  refine v_lp1 (X := Nat) (fun q => wMM g mm b1 b2 b3 b4 b5 b6 b7 b8 b9 b10 b11 b12 b13 b14 b15 b16 b17 kinds ni cm first second An An (rowP Tm c0 q Nw) (rowP Tm c0 q Nw) bc hds tgs qc qi qo qs cn vals Nw Nw Kw Kw cd ++ ([])) (fun q => [(0, .ref (mm)), (1, .int (iI ((c0 : Nat) : Int))), (2, .int (iI ((q : Nat) : Int)))]) (fun q => ni - q) (fun q => q ≤ ni) ?_ (0) (Nat.zero_le _)
  intro q hJ2 ih2
  try dsimp only at hJ2 ⊢
  refine v_iload_n C dX6_takes_2 rfl 2 rfl ?_
  refine v_aload_n C dX6_takes_3 rfl 0 rfl ?_
  refine v_get C 0 (kf := 0) rfl rfl (by decide) inX6_takes_6 lkX6_takes_76 rfl rfl dX6_takes_4 ?_
  refine v_icmp_ge C 48 dX6_takes_7 (by decide) ⟨by omega, by omega⟩ ⟨by omega, by omega⟩ (fun c_1 => ?_) (fun c_1 => ?_)
  ·
    obtain rfl : ni = q := by omega
    exact (v_vret C hr hl () (by decide) (by decide) rfl trivial dX6_takes_48)
  ·
    refine v_aload_n C dX6_takes_10 rfl 0 rfl ?_
    refine v_get C 0 (kf := 7) rfl rfl (by decide) inX6_takes_6 lkX6_takes_31 rfl rfl dX6_takes_11 ?_
    refine v_iload_n C dX6_takes_14 rfl 1 rfl ?_
    refine v_iload_n C dX6_takes_15 rfl 2 rfl ?_
    refine v_invSI C (As := [.int (iI ((c0 : Nat) : Int)), .int (iI ((q : Nat) : Int))]) (kX6_at l g  (r0 := c0) (i0 := q) ) (cwS 2 C.2.2.2.2.1 gX6_takes_X6_at rfl rfl rfl (by decide +kernel) ⟨Nat.le_of_ble_eq_true rfl, Nat.le_of_ble_eq_true rfl⟩) [wMM g mm b1 b2 b3 b4 b5 b6 b7 b8 b9 b10 b11 b12 b13 b14 b15 b16 b17 kinds ni cm first second An An (rowP Tm c0 q Nw) (rowP Tm c0 q Nw) bc hds tgs qc qi qo qs cn vals Nw Nw Kw Kw cd] [] [0] [.ref (b6)] (fun _ => [wMM g mm b1 b2 b3 b4 b5 b6 b7 b8 b9 b10 b11 b12 b13 b14 b15 b16 b17 kinds ni cm first second An An (rowP Tm c0 q Nw) (rowP Tm c0 q Nw) bc hds tgs qc qi qo qs cn vals Nw Nw Kw Kw cd]) (fun _ => wMM g mm b1 b2 b3 b4 b5 b6 b7 b8 b9 b10 b11 b12 b13 b14 b15 b16 b17 kinds ni cm first second An An (rowP Tm c0 q Nw) (rowP Tm c0 q Nw) bc hds tgs qc qi qo qs cn vals Nw Nw Kw Kw cd ++ ([])) rfl rfl rfl (fun _ => rfl) (fun _ => rfl) (fun _ => rfl) (fun _ => rfl) rfl rfl (Nat.le_of_ble_eq_true rfl) dX6_takes_16 ⟨by decide, by decide⟩ (fun r_3 _ h_2 => ?_)
    subst h_2
    refine v_aload_n C dX6_takes_19 rfl 0 rfl ?_
    refine v_get C 0 (kf := 18) rfl rfl (by decide) inX6_takes_6 lkX6_takes_61 rfl rfl dX6_takes_20 ?_
    refine v_iload_n C dX6_takes_23 rfl 2 rfl ?_
    refine v_lald C 14 (q) rfl rfl (by omega) (by decide) dX6_takes_24 ?_
    refine v_last C 6 (12 * c0 + q) (xml (updN (rowP Tm c0 q Nw) (12 * c0 + q) (Nw (q)))) (wMM g mm b1 b2 b3 b4 b5 b6 b7 b8 b9 b10 b11 b12 b13 b14 b15 b16 b17 kinds ni cm first second An An (updN (rowP Tm c0 q Nw) (12 * c0 + q) (Nw (q))) (rowP Tm c0 q Nw) bc hds tgs qc qi qo qs cn vals Nw Nw Kw Kw cd ++ ([])) rfl rfl (by omega) (by decide) dX6_takes_25 (xml_upd _ _ _) rfl ?_
    refine v_aload_n C dX6_takes_26 rfl 0 rfl ?_
    refine v_get C 0 (kf := 8) rfl rfl (by decide) inX6_takes_6 lkX6_takes_34 rfl rfl dX6_takes_27 ?_
    refine v_iload_n C dX6_takes_30 rfl 1 rfl ?_
    refine v_iload_n C dX6_takes_31 rfl 2 rfl ?_
    refine v_invSI C (As := [.int (iI ((c0 : Nat) : Int)), .int (iI ((q : Nat) : Int))]) (kX6_at l g  (r0 := c0) (i0 := q) ) (cwS 2 C.2.2.2.2.1 gX6_takes_X6_at rfl rfl rfl (by decide +kernel) ⟨Nat.le_of_ble_eq_true rfl, Nat.le_of_ble_eq_true rfl⟩) [wMM g mm b1 b2 b3 b4 b5 b6 b7 b8 b9 b10 b11 b12 b13 b14 b15 b16 b17 kinds ni cm first second An An (updN (rowP Tm c0 q Nw) (12 * c0 + q) (Nw (q))) (rowP Tm c0 q Nw) bc hds tgs qc qi qo qs cn vals Nw Nw Kw Kw cd] [] [0] [.ref (b7)] (fun _ => [wMM g mm b1 b2 b3 b4 b5 b6 b7 b8 b9 b10 b11 b12 b13 b14 b15 b16 b17 kinds ni cm first second An An (updN (rowP Tm c0 q Nw) (12 * c0 + q) (Nw (q))) (rowP Tm c0 q Nw) bc hds tgs qc qi qo qs cn vals Nw Nw Kw Kw cd]) (fun _ => wMM g mm b1 b2 b3 b4 b5 b6 b7 b8 b9 b10 b11 b12 b13 b14 b15 b16 b17 kinds ni cm first second An An (updN (rowP Tm c0 q Nw) (12 * c0 + q) (Nw (q))) (rowP Tm c0 q Nw) bc hds tgs qc qi qo qs cn vals Nw Nw Kw Kw cd ++ ([])) rfl rfl rfl (fun _ => rfl) (fun _ => rfl) (fun _ => rfl) (fun _ => rfl) rfl rfl (Nat.le_of_ble_eq_true rfl) dX6_takes_32 ⟨by decide, by decide⟩ (fun r_5 _ h_4 => ?_)
    subst h_4
    refine v_aload_n C dX6_takes_35 rfl 0 rfl ?_
    refine v_get C 0 (kf := 19) rfl rfl (by decide) inX6_takes_6 lkX6_takes_64 rfl rfl dX6_takes_36 ?_
    refine v_iload_n C dX6_takes_39 rfl 2 rfl ?_
    refine v_lald C 15 (q) rfl rfl (by omega) (by decide) dX6_takes_40 ?_
    refine v_last C 7 (12 * c0 + q) (xmh (updN (rowP Tm c0 q Nw) (12 * c0 + q) (Nw (q)))) (wMM g mm b1 b2 b3 b4 b5 b6 b7 b8 b9 b10 b11 b12 b13 b14 b15 b16 b17 kinds ni cm first second An An (updN (rowP Tm c0 q Nw) (12 * c0 + q) (Nw (q))) (updN (rowP Tm c0 q Nw) (12 * c0 + q) (Nw (q))) bc hds tgs qc qi qo qs cn vals Nw Nw Kw Kw cd ++ ([])) rfl rfl (by omega) (by decide) dX6_takes_41 (xmh_upd _ _ _) rfl ?_
    refine v_iinc C [(2, .int (iI (((q : Nat) : Int) + 1))), (0, .ref (mm)), (1, .int (iI ((c0 : Nat) : Int)))] dX6_takes_42 2 rfl (by decide) rfl ?_
    rw [show ((q : Nat) : Int) + 1 = ((q + 1 : Nat) : Int) from rfl]
    refine v_goto C 2 dX6_takes_45 (by decide) ?_
    refine v_lv (lv' := [(0, .ref (mm)), (1, .int (iI ((c0 : Nat) : Int))), (2, .int (iI ((q + 1 : Nat) : Int)))]) [1, 2, 0] rfl ?_
    refine v_ws (ws' := wMM g mm b1 b2 b3 b4 b5 b6 b7 b8 b9 b10 b11 b12 b13 b14 b15 b16 b17 kinds ni cm first second An An (rowP Tm c0 (q + 1) Nw) (rowP Tm c0 (q + 1) Nw) bc hds tgs qc qi qo qs cn vals Nw Nw Kw Kw cd ++ ([])) (by rw [← rowP_s]) ?_
    exact ih2 (q + 1) (by omega) (by omega)
