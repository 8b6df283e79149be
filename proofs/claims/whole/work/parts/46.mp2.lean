set_option maxHeartbeats 4000000 in
set_option maxRecDepth 100000 in
theorem kX6_conflicts_ok (l : Launch) (g : vG) {mm b1 b2 b3 b4 b5 b6 b7 b8 b9 b10 b11 b12 b13 b14 b15 b16 b17 : Nat} {kinds tgs first second vals qs : Nat → Int} {hds An qi qo Tm Nw Kw ris : Nat → Nat} {ni bc cm cn qc cd : Nat} {x0 : Nat} (hI : MI vals ris cn kinds tgs first second qs hds An qi qo Tm ni bc cm qc) (hx0 : x0 < cm)  : mI l g yX6_conflicts wsX6_conflicts ({ frames := 4, cells := 0, slots := 0, locals := 95 }) [.ref (mm), .int (iI ((x0 : Nat) : Int))] (wMM g mm b1 b2 b3 b4 b5 b6 b7 b8 b9 b10 b11 b12 b13 b14 b15 b16 b17 kinds ni cm first second An An Tm Tm bc hds tgs qc qi qo qs cn vals Nw Nw Kw Kw cd ++ ([])) (fun _ : Unit => wMM g mm b1 b2 b3 b4 b5 b6 b7 b8 b9 b10 b11 b12 b13 b14 b15 b16 b17 kinds ni cm first second An An Tm Tm bc hds tgs qc qi qo qs cn vals Nw Nw Kw Kw 0 ++ ([])) (fun v _ => v = iI ((fb_ct (fun i => decide (1 < cnt (Tm (12 * x0 + i)))) ni : Nat) : Int)) 0 0 := by
  refine mI_of (cc := cX6_conflicts) (maxL := 2) (ret := (some .int)) (own := RX6) (by decide) rfl rfl (Nat.le_of_ble_eq_true rfl) ?_
  intro p e s m args below meth c A C hr hl hin
  obtain ⟨hni, hbc1, hbc, hcm1, hcm, hcn1, hnm, hqc, hhd, htg, hf, hs, hfc, hsc, hAn, hTm, hao, hpal, hqb, hqi, htk, hkd⟩ := id hI
  refine v_aload_n C dX6_conflicts_0 rfl 0 rfl ?_
  refine v_iload_n C dX6_conflicts_1 rfl 1 rfl ?_
  refine v_invVI C (As := [.int (iI ((x0 : Nat) : Int))]) (q0 := 0) (ci := 6) (kX6_isNone_in l g (mm := mm) (b1 := b1) (b2 := b2) (b3 := b3) (b4 := b4) (b5 := b5) (b6 := b6) (b7 := b7) (b8 := b8) (b9 := b9) (b10 := b10) (b11 := b11) (b12 := b12) (b13 := b13) (b14 := b14) (b15 := b15) (b16 := b16) (b17 := b17) (kinds := kinds) (tgs := tgs) (first := first) (second := second) (vals := vals) (qs := qs) (hds := hds) (An := An) (qi := qi) (qo := qo) (Tm := Tm) (Nw := Nw) (Kw := Kw) (ni := ni) (bc := bc) (cm := cm) (cn := cn) (qc := qc) (cd := cd) (ris := ris) (i0 := x0) (by omega) (by omega)) (cwV 1 C.2.2.2.2.1 gX6_conflicts_X6_isNone rfl rfl rfl (by decide +kernel) ⟨Nat.le_of_ble_eq_true rfl, Nat.le_of_ble_eq_true rfl⟩) [wMM g mm b1 b2 b3 b4 b5 b6 b7 b8 b9 b10 b11 b12 b13 b14 b15 b16 b17 kinds ni cm first second An An Tm Tm bc hds tgs qc qi qo qs cn vals Nw Nw Kw Kw cd] [0] [] [] (fun _ => [wMM g mm b1 b2 b3 b4 b5 b6 b7 b8 b9 b10 b11 b12 b13 b14 b15 b16 b17 kinds ni cm first second An An Tm Tm bc hds tgs qc qi qo qs cn vals Nw Nw Kw Kw 0]) (fun _ => wMM g mm b1 b2 b3 b4 b5 b6 b7 b8 b9 b10 b11 b12 b13 b14 b15 b16 b17 kinds ni cm first second An An Tm Tm bc hds tgs qc qi qo qs cn vals Nw Nw Kw Kw 0 ++ ([])) rfl rfl rfl (fun _ => rfl) (fun _ => rfl) (fun _ => rfl) (fun _ => rfl) rfl rfl rfl rfl rfl (Nat.le_of_ble_eq_true rfl) dX6_conflicts_2 ⟨by decide, by decide⟩ (fun r_2 _ h_1 => ?_)
  subst h_1
  refine v_ifz_eq C 12 dX6_conflicts_5 (by decide) (fun _ => ?_) (fun h => nomatch h) 
  refine v_aload_n C dX6_conflicts_12 rfl 0 rfl ?_
  refine v_iload_n C dX6_conflicts_13 rfl 1 rfl ?_
  refine v_invVI C (As := [.int (iI ((x0 : Nat) : Int))]) (q0 := 0) (ci := 6) (kX6_conflictsIn l g (mm := mm) (b1 := b1) (b2 := b2) (b3 := b3) (b4 := b4) (b5 := b5) (b6 := b6) (b7 := b7) (b8 := b8) (b9 := b9) (b10 := b10) (b11 := b11) (b12 := b12) (b13 := b13) (b14 := b14) (b15 := b15) (b16 := b16) (b17 := b17) (kinds := kinds) (tgs := tgs) (first := first) (second := second) (vals := vals) (qs := qs) (hds := hds) (An := An) (qi := qi) (qo := qo) (Tm := Tm) (Nw := Nw) (Kw := Kw) (ni := ni) (bc := bc) (cm := cm) (cn := cn) (qc := qc) (cd := 0) (ris := ris) (c0 := x0) hI (by omega)) (cwV 1 C.2.2.2.2.1 gX6_conflicts_X6_conflictsIn rfl rfl rfl (by decide +kernel) ⟨Nat.le_of_ble_eq_true rfl, Nat.le_of_ble_eq_true rfl⟩) [wMM g mm b1 b2 b3 b4 b5 b6 b7 b8 b9 b10 b11 b12 b13 b14 b15 b16 b17 kinds ni cm first second An An Tm Tm bc hds tgs qc qi qo qs cn vals Nw Nw Kw Kw 0] [0] [] [] (fun _ => [wMM g mm b1 b2 b3 b4 b5 b6 b7 b8 b9 b10 b11 b12 b13 b14 b15 b16 b17 kinds ni cm first second An An Tm Tm bc hds tgs qc qi qo qs cn vals Nw Nw Kw Kw 0]) (fun _ => wMM g mm b1 b2 b3 b4 b5 b6 b7 b8 b9 b10 b11 b12 b13 b14 b15 b16 b17 kinds ni cm first second An An Tm Tm bc hds tgs qc qi qo qs cn vals Nw Nw Kw Kw 0 ++ ([])) rfl rfl rfl (fun _ => rfl) (fun _ => rfl) (fun _ => rfl) (fun _ => rfl) rfl rfl rfl rfl rfl (Nat.le_of_ble_eq_true rfl) dX6_conflicts_14 ⟨by decide, by decide⟩ (fun r_4 _ h_3 => ?_)
  subst h_3
  exact (v_iret C hr hl () (by decide) (by decide) rfl rfl dX6_conflicts_17)
set_option maxHeartbeats 4000000 in
set_option maxRecDepth 100000 in
theorem kX6_conflicts_a (l : Launch) (g : vG) {mm b1 b2 b3 b4 b5 b6 b7 b8 b9 b10 b11 b12 b13 b14 b15 b16 b17 : Nat} {kinds tgs first second vals qs : Nat → Int} {hds An qi qo Tm Nw Kw ris : Nat → Nat} {ni bc cm cn qc cd : Nat} {x : Int} (hI : MI vals ris cn kinds tgs first second qs hds An qi qo Tm ni bc cm qc) (hx : b31 x) (hqx : ¬ (0 ≤ x ∧ x < ((cm : Nat) : Int)))  : mI l g yX6_conflicts wsX6_conflicts ({ frames := 3, cells := 0, slots := 0, locals := 64 }) [.ref (mm), .int (iI (x))] (wMM g mm b1 b2 b3 b4 b5 b6 b7 b8 b9 b10 b11 b12 b13 b14 b15 b16 b17 kinds ni cm first second An An Tm Tm bc hds tgs qc qi qo qs cn vals Nw Nw Kw Kw cd ++ ([])) (fun _ : Unit => wMM g mm b1 b2 b3 b4 b5 b6 b7 b8 b9 b10 b11 b12 b13 b14 b15 b16 b17 kinds ni cm first second An An Tm Tm bc hds tgs qc qi qo qs cn vals Nw Nw Kw Kw 1 ++ ([])) (fun _ _ => True) 0 0 := by
  refine mI_of (cc := cX6_conflicts) (maxL := 2) (ret := (some .int)) (own := RX6) (by decide) rfl rfl (Nat.le_of_ble_eq_true rfl) ?_
  intro p e s m args below meth c A C hr hl hin
  obtain ⟨hni, hbc1, hbc, hcm1, hcm, hcn1, hnm, hqc, hhd, htg, hf, hs, hfc, hsc, hAn, hTm, hao, hpal, hqb, hqi, htk, hkd⟩ := id hI
  have hx1 := hx.1
  have hx2 := hx.2
  refine v_aload_n C dX6_conflicts_0 rfl 0 rfl ?_
  refine v_iload_n C dX6_conflicts_1 rfl 1 rfl ?_
  refine v_invVI C (As := [.int (iI (x))]) (q0 := 0) (ci := 6) (kX6_isNone_out l g (mm := mm) (b1 := b1) (b2 := b2) (b3 := b3) (b4 := b4) (b5 := b5) (b6 := b6) (b7 := b7) (b8 := b8) (b9 := b9) (b10 := b10) (b11 := b11) (b12 := b12) (b13 := b13) (b14 := b14) (b15 := b15) (b16 := b16) (b17 := b17) (kinds := kinds) (tgs := tgs) (first := first) (second := second) (vals := vals) (qs := qs) (hds := hds) (An := An) (qi := qi) (qo := qo) (Tm := Tm) (Nw := Nw) (Kw := Kw) (ni := ni) (bc := bc) (cm := cm) (cn := cn) (qc := qc) (cd := cd) (ris := ris) (x := x) ⟨by omega, by omega⟩ (by omega) (by omega)) (cwV 1 C.2.2.2.2.1 gX6_conflicts_X6_isNone rfl rfl rfl (by decide +kernel) ⟨Nat.le_of_ble_eq_true rfl, Nat.le_of_ble_eq_true rfl⟩) [wMM g mm b1 b2 b3 b4 b5 b6 b7 b8 b9 b10 b11 b12 b13 b14 b15 b16 b17 kinds ni cm first second An An Tm Tm bc hds tgs qc qi qo qs cn vals Nw Nw Kw Kw cd] [0] [] [] (fun _ => [wMM g mm b1 b2 b3 b4 b5 b6 b7 b8 b9 b10 b11 b12 b13 b14 b15 b16 b17 kinds ni cm first second An An Tm Tm bc hds tgs qc qi qo qs cn vals Nw Nw Kw Kw 1]) (fun _ => wMM g mm b1 b2 b3 b4 b5 b6 b7 b8 b9 b10 b11 b12 b13 b14 b15 b16 b17 kinds ni cm first second An An Tm Tm bc hds tgs qc qi qo qs cn vals Nw Nw Kw Kw 1 ++ ([])) rfl rfl rfl (fun _ => rfl) (fun _ => rfl) (fun _ => rfl) (fun _ => rfl) rfl rfl rfl rfl rfl (Nat.le_of_ble_eq_true rfl) dX6_conflicts_2 ⟨by decide, by decide⟩ (fun r_2 _ h_1 => ?_)
  subst h_1
  refine v_ifz_eq C 12 dX6_conflicts_5 (by decide) (fun h => nomatch h) (fun _ => ?_)
  refine v_iconst C (z := 0) dX6_conflicts_8 ?_
  refine v_goto C 17 dX6_conflicts_9 (by decide) ?_
  exact (v_iret C hr hl () (by decide) (by decide) rfl trivial dX6_conflicts_17)
theorem inX6_firstConflict_6 : ∀ w ∈ u_ws RX6 TX6 23, w ∈ wsX6_firstConflict := by decide +kernel
theorem lkX6_firstConflict_76 : Cond.fieldLink RX6 76 "MergeAtelierModel" "items" "I" ∈ wsX6_firstConflict := by decide +kernel
set_option maxHeartbeats 4000000 in
set_option maxRecDepth 100000 in
theorem kX6_firstConflict_ok (l : Launch) (g : vG) {mm b1 b2 b3 b4 b5 b6 b7 b8 b9 b10 b11 b12 b13 b14 b15 b16 b17 : Nat} {kinds tgs first second vals qs : Nat → Int} {hds An qi qo Tm Nw Kw ris : Nat → Nat} {ni bc cm cn qc cd : Nat} {x0 : Nat} (hI : MI vals ris cn kinds tgs first second qs hds An qi qo Tm ni bc cm qc) (hx0 : x0 < cm) (hq : ¬ fst (fun i => decide (1 < cnt (Tm (12 * x0 + i)))) ni = ni) : mI l g yX6_firstConflict wsX6_firstConflict ({ frames := 3, cells := 0, slots := 0, locals := 72 }) [.ref (mm), .int (iI ((x0 : Nat) : Int))] (wMM g mm b1 b2 b3 b4 b5 b6 b7 b8 b9 b10 b11 b12 b13 b14 b15 b16 b17 kinds ni cm first second An An Tm Tm bc hds tgs qc qi qo qs cn vals Nw Nw Kw Kw cd ++ ([])) (fun _ : Unit => wMM g mm b1 b2 b3 b4 b5 b6 b7 b8 b9 b10 b11 b12 b13 b14 b15 b16 b17 kinds ni cm first second An An Tm Tm bc hds tgs qc qi qo qs cn vals Nw Nw Kw Kw 0 ++ ([])) (fun v _ => v = iI ((fst (fun i => decide (1 < cnt (Tm (12 * x0 + i)))) ni : Nat) : Int)) 0 0 := by
  refine mI_of (cc := cX6_firstConflict) (maxL := 3) (ret := (some .int)) (own := RX6) (by decide) rfl rfl (Nat.le_of_ble_eq_true rfl) ?_
  intro p e s m args below meth c A C hr hl hin
  obtain ⟨hni, hbc1, hbc, hcm1, hcm, hcn1, hnm, hqc, hhd, htg, hf, hs, hfc, hsc, hAn, hTm, hao, hpal, hqb, hqi, htk, hkd⟩ := id hI
  refine v_aload_n C dX6_firstConflict_0 rfl 0 rfl ?_
  refine v_iload_n C dX6_firstConflict_1 rfl 1 rfl ?_
  refine v_invVI C (As := [.int (iI ((x0 : Nat) : Int))]) (q0 := 0) (ci := 6) (kX6_isNone_in l g (mm := mm) (b1 := b1) (b2 := b2) (b3 := b3) (b4 := b4) (b5 := b5) (b6 := b6) (b7 := b7) (b8 := b8) (b9 := b9) (b10 := b10) (b11 := b11) (b12 := b12) (b13 := b13) (b14 := b14) (b15 := b15) (b16 := b16) (b17 := b17) (kinds := kinds) (tgs := tgs) (first := first) (second := second) (vals := vals) (qs := qs) (hds := hds) (An := An) (qi := qi) (qo := qo) (Tm := Tm) (Nw := Nw) (Kw := Kw) (ni := ni) (bc := bc) (cm := cm) (cn := cn) (qc := qc) (cd := cd) (ris := ris) (i0 := x0) (by omega) (by omega)) (cwV 1 C.2.2.2.2.1 gX6_firstConflict_X6_isNone rfl rfl rfl (by decide +kernel) ⟨Nat.le_of_ble_eq_true rfl, Nat.le_of_ble_eq_true rfl⟩) [wMM g mm b1 b2 b3 b4 b5 b6 b7 b8 b9 b10 b11 b12 b13 b14 b15 b16 b17 kinds ni cm first second An An Tm Tm bc hds tgs qc qi qo qs cn vals Nw Nw Kw Kw cd] [0] [] [] (fun _ => [wMM g mm b1 b2 b3 b4 b5 b6 b7 b8 b9 b10 b11 b12 b13 b14 b15 b16 b17 kinds ni cm first second An An Tm Tm bc hds tgs qc qi qo qs cn vals Nw Nw Kw Kw 0]) (fun _ => wMM g mm b1 b2 b3 b4 b5 b6 b7 b8 b9 b10 b11 b12 b13 b14 b15 b16 b17 kinds ni cm first second An An Tm Tm bc hds tgs qc qi qo qs cn vals Nw Nw Kw Kw 0 ++ ([])) rfl rfl rfl (fun _ => rfl) (fun _ => rfl) (fun _ => rfl) (fun _ => rfl) rfl rfl rfl rfl rfl (Nat.le_of_ble_eq_true rfl) dX6_firstConflict_2 ⟨by decide, by decide⟩ (fun r_2 _ h_1 => ?_)
  subst h_1
  refine v_ifz_eq C 10 dX6_firstConflict_5 (by decide) (fun _ => ?_) (fun h => nomatch h) 
  refine v_iconst C (z := 0) dX6_firstConflict_10 ?_
  refine v_istore_n C [(2, .int (iI (0))), (0, .ref (mm)), (1, .int (iI ((x0 : Nat) : Int)))] dX6_firstConflict_11 rfl (by decide) rfl ?_
  refine v_lv (lv' := [(0, .ref (mm)), (1, .int (iI ((x0 : Nat) : Int))), (2, .int (iI ((0 : Nat) : Int)))]) [1, 2, 0] rfl ?_
  refine v_ws (ws' := wMM g mm b1 b2 b3 b4 b5 b6 b7 b8 b9 b10 b11 b12 b13 b14 b15 b16 b17 kinds ni cm first second An An Tm Tm bc hds tgs qc qi qo qs cn vals Nw Nw Kw Kw 0 ++ ([])) rfl ?_
  refine v_lp1 (X := Nat) (fun i => wMM g mm b1 b2 b3 b4 b5 b6 b7 b8 b9 b10 b11 b12 b13 b14 b15 b16 b17 kinds ni cm first second An An Tm Tm bc hds tgs qc qi qo qs cn vals Nw Nw Kw Kw 0 ++ ([])) (fun i => [(0, .ref (mm)), (1, .int (iI ((x0 : Nat) : Int))), (2, .int (iI ((i : Nat) : Int)))]) (fun i => ni - i) (fun i => i ≤ ni ∧ fst (fun i => decide (1 < cnt (Tm (12 * x0 + i)))) i = i) ?_ (0) ⟨Nat.zero_le _, rfl⟩
  intro i hJ12 ih12
  try dsimp only at hJ12 ⊢
  refine v_iload_n C dX6_firstConflict_12 rfl 2 rfl ?_
  refine v_aload_n C dX6_firstConflict_13 rfl 0 rfl ?_
  refine v_get C 0 (kf := 0) rfl rfl (by decide) inX6_firstConflict_6 lkX6_firstConflict_76 rfl rfl dX6_firstConflict_14 ?_
  refine v_icmp_ge C 38 dX6_firstConflict_17 (by decide) ⟨by omega, by omega⟩ ⟨by omega, by omega⟩ (fun c_3 => ?_) (fun c_3 => ?_)
  ·
    exact absurd (show fst (fun i => decide (1 < cnt (Tm (12 * x0 + i)))) ni = ni from (by obtain rfl : ni = i := (by omega); exact hJ12.2)) hq
  ·
    refine v_aload_n C dX6_firstConflict_20 rfl 0 rfl ?_
    refine v_iload_n C dX6_firstConflict_21 rfl 1 rfl ?_
    refine v_iload_n C dX6_firstConflict_22 rfl 2 rfl ?_
    refine v_invVI C (As := [.int (iI ((x0 : Nat) : Int)), .int (iI ((i : Nat) : Int))]) (q0 := 0) (ci := 6) (kX6_sidesIn l g (mm := mm) (b1 := b1) (b2 := b2) (b3 := b3) (b4 := b4) (b5 := b5) (b6 := b6) (b7 := b7) (b8 := b8) (b9 := b9) (b10 := b10) (b11 := b11) (b12 := b12) (b13 := b13) (b14 := b14) (b15 := b15) (b16 := b16) (b17 := b17) (kinds := kinds) (tgs := tgs) (first := first) (second := second) (vals := vals) (qs := qs) (hds := hds) (An := An) (qi := qi) (qo := qo) (Tm := Tm) (Nw := Nw) (Kw := Kw) (ni := ni) (bc := bc) (cm := cm) (cn := cn) (qc := qc) (cd := 0) (ris := ris) (c0 := x0) (i0 := i) (by omega) (by omega) (by omega) (htk.lt (by omega) (by omega))) (cwV 2 C.2.2.2.2.1 gX6_firstConflict_X6_sidesIn rfl rfl rfl (by decide +kernel) ⟨Nat.le_of_ble_eq_true rfl, Nat.le_of_ble_eq_true rfl⟩) [wMM g mm b1 b2 b3 b4 b5 b6 b7 b8 b9 b10 b11 b12 b13 b14 b15 b16 b17 kinds ni cm first second An An Tm Tm bc hds tgs qc qi qo qs cn vals Nw Nw Kw Kw 0] [0] [] [] (fun _ => [wMM g mm b1 b2 b3 b4 b5 b6 b7 b8 b9 b10 b11 b12 b13 b14 b15 b16 b17 kinds ni cm first second An An Tm Tm bc hds tgs qc qi qo qs cn vals Nw Nw Kw Kw 0]) (fun _ => wMM g mm b1 b2 b3 b4 b5 b6 b7 b8 b9 b10 b11 b12 b13 b14 b15 b16 b17 kinds ni cm first second An An Tm Tm bc hds tgs qc qi qo qs cn vals Nw Nw Kw Kw 0 ++ ([])) rfl rfl rfl (fun _ => rfl) (fun _ => rfl) (fun _ => rfl) (fun _ => rfl) rfl rfl rfl rfl rfl (Nat.le_of_ble_eq_true rfl) dX6_firstConflict_23 ⟨by decide, by decide⟩ (fun r_5 _ h_4 => ?_)
    subst h_4
    refine v_iconst C (z := 1) dX6_firstConflict_26 ?_
    refine v_icmp_le C 32 dX6_firstConflict_27 (by decide) (cnt31 _) (b31_lit _ rfl) (fun c_6 => ?_) (fun c_6 => ?_)
    ·
      refine v_iinc C [(2, .int (iI (((i : Nat) : Int) + 1))), (0, .ref (mm)), (1, .int (iI ((x0 : Nat) : Int)))] dX6_firstConflict_32 2 rfl (by decide) rfl ?_
      rw [show ((i : Nat) : Int) + 1 = ((i + 1 : Nat) : Int) from rfl]
      refine v_goto C 12 dX6_firstConflict_35 (by decide) ?_
      refine v_lv (lv' := [(0, .ref (mm)), (1, .int (iI ((x0 : Nat) : Int))), (2, .int (iI ((i + 1 : Nat) : Int)))]) [1, 2, 0] rfl ?_
      refine v_ws (ws' := wMM g mm b1 b2 b3 b4 b5 b6 b7 b8 b9 b10 b11 b12 b13 b14 b15 b16 b17 kinds ni cm first second An An Tm Tm bc hds tgs qc qi qo qs cn vals Nw Nw Kw Kw 0 ++ ([])) rfl ?_
      exact ih12 (i + 1) ⟨by omega, fst_miss hJ12.2 (decide_eq_false (by omega))⟩ (by omega)
    ·
      have hfh := fst_hit hJ12.2 (decide_eq_true (show 1 < cnt (Tm (12 * x0 + i)) by omega)) ni (by omega)
      refine v_iload_n C dX6_firstConflict_30 rfl 2 rfl ?_
      exact (v_iret C hr hl () (by decide) (by decide) rfl (congrArg (fun z : Nat => iI (z : Int)) hfh.symm) dX6_firstConflict_31)
set_option maxHeartbeats 4000000 in
set_option maxRecDepth 100000 in
theorem kX6_firstConflict_a (l : Launch) (g : vG) {mm b1 b2 b3 b4 b5 b6 b7 b8 b9 b10 b11 b12 b13 b14 b15 b16 b17 : Nat} {kinds tgs first second vals qs : Nat → Int} {hds An qi qo Tm Nw Kw ris : Nat → Nat} {ni bc cm cn qc cd : Nat} {x : Int} (hI : MI vals ris cn kinds tgs first second qs hds An qi qo Tm ni bc cm qc) (hx : b31 x) (hqx : ¬ (0 ≤ x ∧ x < ((cm : Nat) : Int)))  : mI l g yX6_firstConflict wsX6_firstConflict ({ frames := 3, cells := 0, slots := 0, locals := 64 }) [.ref (mm), .int (iI (x))] (wMM g mm b1 b2 b3 b4 b5 b6 b7 b8 b9 b10 b11 b12 b13 b14 b15 b16 b17 kinds ni cm first second An An Tm Tm bc hds tgs qc qi qo qs cn vals Nw Nw Kw Kw cd ++ ([])) (fun _ : Unit => wMM g mm b1 b2 b3 b4 b5 b6 b7 b8 b9 b10 b11 b12 b13 b14 b15 b16 b17 kinds ni cm first second An An Tm Tm bc hds tgs qc qi qo qs cn vals Nw Nw Kw Kw 1 ++ ([])) (fun _ _ => True) 0 0 := by
  refine mI_of (cc := cX6_firstConflict) (maxL := 3) (ret := (some .int)) (own := RX6) (by decide) rfl rfl (Nat.le_of_ble_eq_true rfl) ?_
  intro p e s m args below meth c A C hr hl hin
  obtain ⟨hni, hbc1, hbc, hcm1, hcm, hcn1, hnm, hqc, hhd, htg, hf, hs, hfc, hsc, hAn, hTm, hao, hpal, hqb, hqi, htk, hkd⟩ := id hI
  have hx1 := hx.1
  have hx2 := hx.2
  refine v_aload_n C dX6_firstConflict_0 rfl 0 rfl ?_
  refine v_iload_n C dX6_firstConflict_1 rfl 1 rfl ?_
  refine v_invVI C (As := [.int (iI (x))]) (q0 := 0) (ci := 6) (kX6_isNone_out l g (mm := mm) (b1 := b1) (b2 := b2) (b3 := b3) (b4 := b4) (b5 := b5) (b6 := b6) (b7 := b7) (b8 := b8) (b9 := b9) (b10 := b10) (b11 := b11) (b12 := b12) (b13 := b13) (b14 := b14) (b15 := b15) (b16 := b16) (b17 := b17) (kinds := kinds) (tgs := tgs) (first := first) (second := second) (vals := vals) (qs := qs) (hds := hds) (An := An) (qi := qi) (qo := qo) (Tm := Tm) (Nw := Nw) (Kw := Kw) (ni := ni) (bc := bc) (cm := cm) (cn := cn) (qc := qc) (cd := cd) (ris := ris) (x := x) ⟨by omega, by omega⟩ (by omega) (by omega)) (cwV 1 C.2.2.2.2.1 gX6_firstConflict_X6_isNone rfl rfl rfl (by decide +kernel) ⟨Nat.le_of_ble_eq_true rfl, Nat.le_of_ble_eq_true rfl⟩) [wMM g mm b1 b2 b3 b4 b5 b6 b7 b8 b9 b10 b11 b12 b13 b14 b15 b16 b17 kinds ni cm first second An An Tm Tm bc hds tgs qc qi qo qs cn vals Nw Nw Kw Kw cd] [0] [] [] (fun _ => [wMM g mm b1 b2 b3 b4 b5 b6 b7 b8 b9 b10 b11 b12 b13 b14 b15 b16 b17 kinds ni cm first second An An Tm Tm bc hds tgs qc qi qo qs cn vals Nw Nw Kw Kw 1]) (fun _ => wMM g mm b1 b2 b3 b4 b5 b6 b7 b8 b9 b10 b11 b12 b13 b14 b15 b16 b17 kinds ni cm first second An An Tm Tm bc hds tgs qc qi qo qs cn vals Nw Nw Kw Kw 1 ++ ([])) rfl rfl rfl (fun _ => rfl) (fun _ => rfl) (fun _ => rfl) (fun _ => rfl) rfl rfl rfl rfl rfl (Nat.le_of_ble_eq_true rfl) dX6_firstConflict_2 ⟨by decide, by decide⟩ (fun r_2 _ h_1 => ?_)
  subst h_1
  refine v_ifz_eq C 10 dX6_firstConflict_5 (by decide) (fun h => nomatch h) (fun _ => ?_)
  refine v_iconst C (z := 0) dX6_firstConflict_8 ?_
  exact (v_iret C hr hl () (by decide) (by decide) rfl trivial dX6_firstConflict_9)
theorem lkX6_firstConflict_73 : Cond.fieldLink RX6 73 "MergeAtelierModel" "code" "I" ∈ wsX6_firstConflict := by decide +kernel
set_option maxHeartbeats 4000000 in
set_option maxRecDepth 100000 in
theorem kX6_firstConflict_2 (l : Launch) (g : vG) {mm b1 b2 b3 b4 b5 b6 b7 b8 b9 b10 b11 b12 b13 b14 b15 b16 b17 : Nat} {kinds tgs first second vals qs : Nat → Int} {hds An qi qo Tm Nw Kw ris : Nat → Nat} {ni bc cm cn qc cd : Nat} {x0 : Nat} (hI : MI vals ris cn kinds tgs first second qs hds An qi qo Tm ni bc cm qc) (hx0 : x0 < cm) (hq : fst (fun i => decide (1 < cnt (Tm (12 * x0 + i)))) ni = ni) : mI l g yX6_firstConflict wsX6_firstConflict ({ frames := 3, cells := 0, slots := 0, locals := 72 }) [.ref (mm), .int (iI ((x0 : Nat) : Int))] (wMM g mm b1 b2 b3 b4 b5 b6 b7 b8 b9 b10 b11 b12 b13 b14 b15 b16 b17 kinds ni cm first second An An Tm Tm bc hds tgs qc qi qo qs cn vals Nw Nw Kw Kw cd ++ ([])) (fun _ : Unit => wMM g mm b1 b2 b3 b4 b5 b6 b7 b8 b9 b10 b11 b12 b13 b14 b15 b16 b17 kinds ni cm first second An An Tm Tm bc hds tgs qc qi qo qs cn vals Nw Nw Kw Kw 2 ++ ([])) (fun _ _ => True) 0 0 := by
  refine mI_of (cc := cX6_firstConflict) (maxL := 3) (ret := (some .int)) (own := RX6) (by decide) rfl rfl (Nat.le_of_ble_eq_true rfl) ?_
  intro p e s m args below meth c A C hr hl hin
  obtain ⟨hni, hbc1, hbc, hcm1, hcm, hcn1, hnm, hqc, hhd, htg, hf, hs, hfc, hsc, hAn, hTm, hao, hpal, hqb, hqi, htk, hkd⟩ := id hI
  refine v_aload_n C dX6_firstConflict_0 rfl 0 rfl ?_
  refine v_iload_n C dX6_firstConflict_1 rfl 1 rfl ?_
  refine v_invVI C (As := [.int (iI ((x0 : Nat) : Int))]) (q0 := 0) (ci := 6) (kX6_isNone_in l g (mm := mm) (b1 := b1) (b2 := b2) (b3 := b3) (b4 := b4) (b5 := b5) (b6 := b6) (b7 := b7) (b8 := b8) (b9 := b9) (b10 := b10) (b11 := b11) (b12 := b12) (b13 := b13) (b14 := b14) (b15 := b15) (b16 := b16) (b17 := b17) (kinds := kinds) (tgs := tgs) (first := first) (second := second) (vals := vals) (qs := qs) (hds := hds) (An := An) (qi := qi) (qo := qo) (Tm := Tm) (Nw := Nw) (Kw := Kw) (ni := ni) (bc := bc) (cm := cm) (cn := cn) (qc := qc) (cd := cd) (ris := ris) (i0 := x0) (by omega) (by omega)) (cwV 1 C.2.2.2.2.1 gX6_firstConflict_X6_isNone rfl rfl rfl (by decide +kernel) ⟨Nat.le_of_ble_eq_true rfl, Nat.le_of_ble_eq_true rfl⟩) [wMM g mm b1 b2 b3 b4 b5 b6 b7 b8 b9 b10 b11 b12 b13 b14 b15 b16 b17 kinds ni cm first second An An Tm Tm bc hds tgs qc qi qo qs cn vals Nw Nw Kw Kw cd] [0] [] [] (fun _ => [wMM g mm b1 b2 b3 b4 b5 b6 b7 b8 b9 b10 b11 b12 b13 b14 b15 b16 b17 kinds ni cm first second An An Tm Tm bc hds tgs qc qi qo qs cn vals Nw Nw Kw Kw 0]) (fun _ => wMM g mm b1 b2 b3 b4 b5 b6 b7 b8 b9 b10 b11 b12 b13 b14 b15 b16 b17 kinds ni cm first second An An Tm Tm bc hds tgs qc qi qo qs cn vals Nw Nw Kw Kw 0 ++ ([])) rfl rfl rfl (fun _ => rfl) (fun _ => rfl) (fun _ => rfl) (fun _ => rfl) rfl rfl rfl rfl rfl (Nat.le_of_ble_eq_true rfl) dX6_firstConflict_2 ⟨by decide, by decide⟩ (fun r_2 _ h_1 => ?_)
  subst h_1
  refine v_ifz_eq C 10 dX6_firstConflict_5 (by decide) (fun _ => ?_) (fun h => nomatch h) 
  refine v_iconst C (z := 0) dX6_firstConflict_10 ?_
  refine v_istore_n C [(2, .int (iI (0))), (0, .ref (mm)), (1, .int (iI ((x0 : Nat) : Int)))] dX6_firstConflict_11 rfl (by decide) rfl ?_
  refine v_lv (lv' := [(0, .ref (mm)), (1, .int (iI ((x0 : Nat) : Int))), (2, .int (iI ((0 : Nat) : Int)))]) [1, 2, 0] rfl ?_
  refine v_ws (ws' := wMM g mm b1 b2 b3 b4 b5 b6 b7 b8 b9 b10 b11 b12 b13 b14 b15 b16 b17 kinds ni cm first second An An Tm Tm bc hds tgs qc qi qo qs cn vals Nw Nw Kw Kw 0 ++ ([])) rfl ?_
  refine v_lp1 (X := Nat) (fun i => wMM g mm b1 b2 b3 b4 b5 b6 b7 b8 b9 b10 b11 b12 b13 b14 b15 b16 b17 kinds ni cm first second An An Tm Tm bc hds tgs qc qi qo qs cn vals Nw Nw Kw Kw 0 ++ ([])) (fun i => [(0, .ref (mm)), (1, .int (iI ((x0 : Nat) : Int))), (2, .int (iI ((i : Nat) : Int)))]) (fun i => ni - i) (fun i => i ≤ ni ∧ fst (fun i => decide (1 < cnt (Tm (12 * x0 + i)))) i = i) ?_ (0) ⟨Nat.zero_le _, rfl⟩
  intro i hJ12 ih12
  try dsimp only at hJ12 ⊢
  refine v_iload_n C dX6_firstConflict_12 rfl 2 rfl ?_
  refine v_aload_n C dX6_firstConflict_13 rfl 0 rfl ?_
  refine v_get C 0 (kf := 0) rfl rfl (by decide) inX6_firstConflict_6 lkX6_firstConflict_76 rfl rfl dX6_firstConflict_14 ?_
  refine v_icmp_ge C 38 dX6_firstConflict_17 (by decide) ⟨by omega, by omega⟩ ⟨by omega, by omega⟩ (fun c_3 => ?_) (fun c_3 => ?_)
  ·
    refine v_aload_n C dX6_firstConflict_38 rfl 0 rfl ?_
    refine v_iconst C (z := 2) dX6_firstConflict_39 ?_
    refine v_put C 0 (kf := 22) (wMM g mm b1 b2 b3 b4 b5 b6 b7 b8 b9 b10 b11 b12 b13 b14 b15 b16 b17 kinds ni cm first second An An Tm Tm bc hds tgs qc qi qo qs cn vals Nw Nw Kw Kw 2 ++ ([])) rfl rfl (by decide) inX6_firstConflict_6 lkX6_firstConflict_73 rfl tyX6_ok nmX6 rfl rfl rfl (Nat.le_of_ble_eq_true rfl) dX6_firstConflict_40 rfl ?_
    refine v_iconst C (z := 0) dX6_firstConflict_43 ?_
    exact (v_iret C hr hl () (by decide) (by decide) rfl trivial dX6_firstConflict_44)
  ·
    refine v_aload_n C dX6_firstConflict_20 rfl 0 rfl ?_
    refine v_iload_n C dX6_firstConflict_21 rfl 1 rfl ?_
    refine v_iload_n C dX6_firstConflict_22 rfl 2 rfl ?_
    refine v_invVI C (As := [.int (iI ((x0 : Nat) : Int)), .int (iI ((i : Nat) : Int))]) (q0 := 0) (ci := 6) (kX6_sidesIn l g (mm := mm) (b1 := b1) (b2 := b2) (b3 := b3) (b4 := b4) (b5 := b5) (b6 := b6) (b7 := b7) (b8 := b8) (b9 := b9) (b10 := b10) (b11 := b11) (b12 := b12) (b13 := b13) (b14 := b14) (b15 := b15) (b16 := b16) (b17 := b17) (kinds := kinds) (tgs := tgs) (first := first) (second := second) (vals := vals) (qs := qs) (hds := hds) (An := An) (qi := qi) (qo := qo) (Tm := Tm) (Nw := Nw) (Kw := Kw) (ni := ni) (bc := bc) (cm := cm) (cn := cn) (qc := qc) (cd := 0) (ris := ris) (c0 := x0) (i0 := i) (by omega) (by omega) (by omega) (htk.lt (by omega) (by omega))) (cwV 2 C.2.2.2.2.1 gX6_firstConflict_X6_sidesIn rfl rfl rfl (by decide +kernel) ⟨Nat.le_of_ble_eq_true rfl, Nat.le_of_ble_eq_true rfl⟩) [wMM g mm b1 b2 b3 b4 b5 b6 b7 b8 b9 b10 b11 b12 b13 b14 b15 b16 b17 kinds ni cm first second An An Tm Tm bc hds tgs qc qi qo qs cn vals Nw Nw Kw Kw 0] [0] [] [] (fun _ => [wMM g mm b1 b2 b3 b4 b5 b6 b7 b8 b9 b10 b11 b12 b13 b14 b15 b16 b17 kinds ni cm first second An An Tm Tm bc hds tgs qc qi qo qs cn vals Nw Nw Kw Kw 0]) (fun _ => wMM g mm b1 b2 b3 b4 b5 b6 b7 b8 b9 b10 b11 b12 b13 b14 b15 b16 b17 kinds ni cm first second An An Tm Tm bc hds tgs qc qi qo qs cn vals Nw Nw Kw Kw 0 ++ ([])) rfl rfl rfl (fun _ => rfl) (fun _ => rfl) (fun _ => rfl) (fun _ => rfl) rfl rfl rfl rfl rfl (Nat.le_of_ble_eq_true rfl) dX6_firstConflict_23 ⟨by decide, by decide⟩ (fun r_5 _ h_4 => ?_)
    subst h_4
    refine v_iconst C (z := 1) dX6_firstConflict_26 ?_
    refine v_icmp_le C 32 dX6_firstConflict_27 (by decide) (cnt31 _) (b31_lit _ rfl) (fun c_6 => ?_) (fun c_6 => ?_)
    ·
      refine v_iinc C [(2, .int (iI (((i : Nat) : Int) + 1))), (0, .ref (mm)), (1, .int (iI ((x0 : Nat) : Int)))] dX6_firstConflict_32 2 rfl (by decide) rfl ?_
      rw [show ((i : Nat) : Int) + 1 = ((i + 1 : Nat) : Int) from rfl]
      refine v_goto C 12 dX6_firstConflict_35 (by decide) ?_
      refine v_lv (lv' := [(0, .ref (mm)), (1, .int (iI ((x0 : Nat) : Int))), (2, .int (iI ((i + 1 : Nat) : Int)))]) [1, 2, 0] rfl ?_
      refine v_ws (ws' := wMM g mm b1 b2 b3 b4 b5 b6 b7 b8 b9 b10 b11 b12 b13 b14 b15 b16 b17 kinds ni cm first second An An Tm Tm bc hds tgs qc qi qo qs cn vals Nw Nw Kw Kw 0 ++ ([])) rfl ?_
      exact ih12 (i + 1) ⟨by omega, fst_miss hJ12.2 (decide_eq_false (by omega))⟩ (by omega)
    ·
      have hfh := fst_hit hJ12.2 (decide_eq_true (show 1 < cnt (Tm (12 * x0 + i)) by omega)) ni (by omega)
      exfalso; omega
theorem inX6_differences_6 : ∀ w ∈ u_ws RX6 TX6 23, w ∈ wsX6_differences := by decide +kernel
theorem lkX6_differences_76 : Cond.fieldLink RX6 76 "MergeAtelierModel" "items" "I" ∈ wsX6_differences := by decide +kernel
set_option maxHeartbeats 4000000 in
set_option maxRecDepth 100000 in
theorem kX6_differences_ok (l : Launch) (g : vG) {mm b1 b2 b3 b4 b5 b6 b7 b8 b9 b10 b11 b12 b13 b14 b15 b16 b17 : Nat} {kinds tgs first second vals qs : Nat → Int} {hds An qi qo Tm Nw Kw ris : Nat → Nat} {ni bc cm cn qc cd : Nat} {x0 : Nat} {y0 : Nat} (hI : MI vals ris cn kinds tgs first second qs hds An qi qo Tm ni bc cm qc) (hx0 : x0 < cm) (hy0 : y0 < cm)  : mI l g yX6_differences wsX6_differences ({ frames := 3, cells := 0, slots := 0, locals := 65 }) [.ref (mm), .int (iI ((x0 : Nat) : Int)), .int (iI ((y0 : Nat) : Int))] (wMM g mm b1 b2 b3 b4 b5 b6 b7 b8 b9 b10 b11 b12 b13 b14 b15 b16 b17 kinds ni cm first second An An Tm Tm bc hds tgs qc qi qo qs cn vals Nw Nw Kw Kw cd ++ ([])) (fun _ : Unit => wMM g mm b1 b2 b3 b4 b5 b6 b7 b8 b9 b10 b11 b12 b13 b14 b15 b16 b17 kinds ni cm first second An An Tm Tm bc hds tgs qc qi qo qs cn vals Nw Nw Kw Kw 0 ++ ([])) (fun v _ => v = iI ((fb_ct (fun i => !decide (Tm (12 * x0 + i) = Tm (12 * y0 + i))) ni : Nat) : Int)) 0 0 := by
  refine mI_of (cc := cX6_differences) (maxL := 5) (ret := (some .int)) (own := RX6) (by decide) rfl rfl (Nat.le_of_ble_eq_true rfl) ?_
  intro p e s m args below meth c A C hr hl hin
  obtain ⟨hni, hbc1, hbc, hcm1, hcm, hcn1, hnm, hqc, hhd, htg, hf, hs, hfc, hsc, hAn, hTm, hao, hpal, hqb, hqi, htk, hkd⟩ := id hI
  refine v_aload_n C dX6_differences_0 rfl 0 rfl ?_
  refine v_iload_n C dX6_differences_1 rfl 1 rfl ?_
  refine v_iload_n C dX6_differences_2 rfl 2 rfl ?_
  refine v_invVI C (As := [.int (iI ((x0 : Nat) : Int)), .int (iI ((y0 : Nat) : Int))]) (q0 := 0) (ci := 6) (kX6_isNoPair_in l g (mm := mm) (b1 := b1) (b2 := b2) (b3 := b3) (b4 := b4) (b5 := b5) (b6 := b6) (b7 := b7) (b8 := b8) (b9 := b9) (b10 := b10) (b11 := b11) (b12 := b12) (b13 := b13) (b14 := b14) (b15 := b15) (b16 := b16) (b17 := b17) (kinds := kinds) (tgs := tgs) (first := first) (second := second) (vals := vals) (qs := qs) (hds := hds) (An := An) (qi := qi) (qo := qo) (Tm := Tm) (Nw := Nw) (Kw := Kw) (ni := ni) (bc := bc) (cm := cm) (cn := cn) (qc := qc) (cd := cd) (ris := ris) (i0 := x0) (j0 := y0) (by omega) (by omega) (by omega) (by omega)) (cwV 2 C.2.2.2.2.1 gX6_differences_X6_isNoPair rfl rfl rfl (by decide +kernel) ⟨Nat.le_of_ble_eq_true rfl, Nat.le_of_ble_eq_true rfl⟩) [wMM g mm b1 b2 b3 b4 b5 b6 b7 b8 b9 b10 b11 b12 b13 b14 b15 b16 b17 kinds ni cm first second An An Tm Tm bc hds tgs qc qi qo qs cn vals Nw Nw Kw Kw cd] [0] [] [] (fun _ => [wMM g mm b1 b2 b3 b4 b5 b6 b7 b8 b9 b10 b11 b12 b13 b14 b15 b16 b17 kinds ni cm first second An An Tm Tm bc hds tgs qc qi qo qs cn vals Nw Nw Kw Kw 0]) (fun _ => wMM g mm b1 b2 b3 b4 b5 b6 b7 b8 b9 b10 b11 b12 b13 b14 b15 b16 b17 kinds ni cm first second An An Tm Tm bc hds tgs qc qi qo qs cn vals Nw Nw Kw Kw 0 ++ ([])) rfl rfl rfl (fun _ => rfl) (fun _ => rfl) (fun _ => rfl) (fun _ => rfl) rfl rfl rfl rfl rfl (Nat.le_of_ble_eq_true rfl) dX6_differences_3 ⟨by decide, by decide⟩ (fun r_2 _ h_1 => ?_)
  subst h_1
  refine v_ifz_eq C 11 dX6_differences_6 (by decide) (fun _ => ?_) (fun h => nomatch h) 
  refine v_iconst C (z := 0) dX6_differences_11 ?_
  refine v_istore_n C [(3, .int (iI (0))), (0, .ref (mm)), (1, .int (iI ((x0 : Nat) : Int))), (2, .int (iI ((y0 : Nat) : Int)))] dX6_differences_12 rfl (by decide) rfl ?_
  refine v_iconst C (z := 0) dX6_differences_13 ?_
  refine v_istore C [(4, .int (iI (0))), (3, .int (iI (0))), (0, .ref (mm)), (1, .int (iI ((x0 : Nat) : Int))), (2, .int (iI ((y0 : Nat) : Int)))] dX6_differences_14 (by decide) rfl ?_
  refine v_lv (lv' := [(0, .ref (mm)), (1, .int (iI ((x0 : Nat) : Int))), (2, .int (iI ((y0 : Nat) : Int))), (3, .int (iI ((fb_ct (fun i => !decide (Tm (12 * x0 + i) = Tm (12 * y0 + i))) 0 : Nat) : Int))), (4, .int (iI ((0 : Nat) : Int)))]) [2, 3, 4, 1, 0] rfl ?_
  refine v_ws (ws' := wMM g mm b1 b2 b3 b4 b5 b6 b7 b8 b9 b10 b11 b12 b13 b14 b15 b16 b17 kinds ni cm first second An An Tm Tm bc hds tgs qc qi qo qs cn vals Nw Nw Kw Kw 0 ++ ([])) rfl ?_
  refine v_lp1 (X := Nat) (fun i => wMM g mm b1 b2 b3 b4 b5 b6 b7 b8 b9 b10 b11 b12 b13 b14 b15 b16 b17 kinds ni cm first second An An Tm Tm bc hds tgs qc qi qo qs cn vals Nw Nw Kw Kw 0 ++ ([])) (fun i => [(0, .ref (mm)), (1, .int (iI ((x0 : Nat) : Int))), (2, .int (iI ((y0 : Nat) : Int))), (3, .int (iI ((fb_ct (fun i => !decide (Tm (12 * x0 + i) = Tm (12 * y0 + i))) i : Nat) : Int))), (4, .int (iI ((i : Nat) : Int)))]) (fun i => ni - i) (fun i => i ≤ ni) ?_ (0) (Nat.zero_le _)
  intro i hJ16 ih16
  try dsimp only at hJ16 ⊢
  refine v_iload C dX6_differences_16 4 rfl ?_
  refine v_aload_n C dX6_differences_18 rfl 0 rfl ?_
  refine v_get C 0 (kf := 0) rfl rfl (by decide) inX6_differences_6 lkX6_differences_76 rfl rfl dX6_differences_19 ?_
  refine v_icmp_ge C 50 dX6_differences_22 (by decide) ⟨by omega, by omega⟩ ⟨by omega, by omega⟩ (fun c_3 => ?_) (fun c_3 => ?_)
  ·
    obtain rfl : ni = i := by omega
    refine v_iload_n C dX6_differences_50 rfl 3 rfl ?_
    exact (v_iret C hr hl () (by decide) (by decide) rfl rfl dX6_differences_51)
  ·
    refine v_iload_n C dX6_differences_25 rfl 3 rfl ?_
    refine v_aload_n C dX6_differences_26 rfl 0 rfl ?_
    refine v_iload_n C dX6_differences_27 rfl 1 rfl ?_
    refine v_iload_n C dX6_differences_28 rfl 2 rfl ?_
    refine v_iload C dX6_differences_29 4 rfl ?_
    refine v_invVI C (As := [.int (iI ((x0 : Nat) : Int)), .int (iI ((y0 : Nat) : Int)), .int (iI ((i : Nat) : Int))]) (q0 := 0) (ci := 6) (kX6_isSame l g (mm := mm) (b1 := b1) (b2 := b2) (b3 := b3) (b4 := b4) (b5 := b5) (b6 := b6) (b7 := b7) (b8 := b8) (b9 := b9) (b10 := b10) (b11 := b11) (b12 := b12) (b13 := b13) (b14 := b14) (b15 := b15) (b16 := b16) (b17 := b17) (kinds := kinds) (tgs := tgs) (first := first) (second := second) (vals := vals) (qs := qs) (hds := hds) (An := An) (qi := qi) (qo := qo) (Tm := Tm) (Nw := Nw) (Kw := Kw) (ni := ni) (bc := bc) (cm := cm) (cn := cn) (qc := qc) (cd := 0) (ris := ris) (c0 := x0) (d0 := y0) (i0 := i) (by omega) (by omega) (by omega) hTm) (cwV 3 C.2.2.2.2.1 gX6_differences_X6_isSame rfl rfl rfl (by decide +kernel) ⟨Nat.le_of_ble_eq_true rfl, Nat.le_of_ble_eq_true rfl⟩) [wMM g mm b1 b2 b3 b4 b5 b6 b7 b8 b9 b10 b11 b12 b13 b14 b15 b16 b17 kinds ni cm first second An An Tm Tm bc hds tgs qc qi qo qs cn vals Nw Nw Kw Kw 0] [0] [] [.int (iI ((fb_ct (fun i => !decide (Tm (12 * x0 + i) = Tm (12 * y0 + i))) i : Nat) : Int))] (fun _ => [wMM g mm b1 b2 b3 b4 b5 b6 b7 b8 b9 b10 b11 b12 b13 b14 b15 b16 b17 kinds ni cm first second An An Tm Tm bc hds tgs qc qi qo qs cn vals Nw Nw Kw Kw 0]) (fun _ => wMM g mm b1 b2 b3 b4 b5 b6 b7 b8 b9 b10 b11 b12 b13 b14 b15 b16 b17 kinds ni cm first second An An Tm Tm bc hds tgs qc qi qo qs cn vals Nw Nw Kw Kw 0 ++ ([])) rfl rfl rfl (fun _ => rfl) (fun _ => rfl) (fun _ => rfl) (fun _ => rfl) rfl rfl rfl rfl rfl (Nat.le_of_ble_eq_true rfl) dX6_differences_31 ⟨by decide, by decide⟩ (fun r_5 _ h_4 => ?_)
    subst h_4
    refine v_ifz_eq C 41 dX6_differences_34 (by decide) (fun c_6 => ?_) (fun c_6 => ?_)
    ·
      refine v_iconst C (z := 1) dX6_differences_41 ?_
      refine v_iadd C dX6_differences_42 ?_
      rw [show (((fb_ct (fun i => !decide (Tm (12 * x0 + i) = Tm (12 * y0 + i))) i : Nat) : Int)) + 1 = (((fb_ct (fun i => !decide (Tm (12 * x0 + i) = Tm (12 * y0 + i))) i) + 1 : Nat) : Int) from rfl]
      refine v_istore_n C [(3, .int (iI (((fb_ct (fun i => !decide (Tm (12 * x0 + i) = Tm (12 * y0 + i))) i) + 1 : Nat) : Int))), (0, .ref (mm)), (1, .int (iI ((x0 : Nat) : Int))), (2, .int (iI ((y0 : Nat) : Int))), (4, .int (iI ((i : Nat) : Int)))] dX6_differences_43 rfl (by decide) rfl ?_
      refine v_iinc C [(4, .int (iI (((i : Nat) : Int) + 1))), (3, .int (iI (((fb_ct (fun i => !decide (Tm (12 * x0 + i) = Tm (12 * y0 + i))) i) + 1 : Nat) : Int))), (0, .ref (mm)), (1, .int (iI ((x0 : Nat) : Int))), (2, .int (iI ((y0 : Nat) : Int)))] dX6_differences_44 4 rfl (by decide) rfl ?_
      rw [show ((i : Nat) : Int) + 1 = ((i + 1 : Nat) : Int) from rfl]
      refine v_goto C 16 dX6_differences_47 (by decide) ?_
      refine v_lv (lv' := [(0, .ref (mm)), (1, .int (iI ((x0 : Nat) : Int))), (2, .int (iI ((y0 : Nat) : Int))), (3, .int (iI (((fb_ct (fun i => !decide (Tm (12 * x0 + i) = Tm (12 * y0 + i))) i) + 1 : Nat) : Int))), (4, .int (iI ((i + 1 : Nat) : Int)))]) [2, 3, 4, 1, 0] rfl ?_
      rw [show (((fb_ct (fun i => !decide (Tm (12 * x0 + i) = Tm (12 * y0 + i))) i) + 1 : Nat) : Int) = ((fb_ct (fun i => !decide (Tm (12 * x0 + i) = Tm (12 * y0 + i))) (i + 1) : Nat) : Int) from (ct_tn c_6)]
      refine v_ws (ws' := wMM g mm b1 b2 b3 b4 b5 b6 b7 b8 b9 b10 b11 b12 b13 b14 b15 b16 b17 kinds ni cm first second An An Tm Tm bc hds tgs qc qi qo qs cn vals Nw Nw Kw Kw 0 ++ ([])) rfl ?_
      exact ih16 (i + 1) (by omega) (by omega)
    ·
      refine v_iconst C (z := 0) dX6_differences_37 ?_
      refine v_goto C 42 dX6_differences_38 (by decide) ?_
      refine v_iadd C dX6_differences_42 ?_
      rw [show (((fb_ct (fun i => !decide (Tm (12 * x0 + i) = Tm (12 * y0 + i))) i : Nat) : Int)) + 0 = (((fb_ct (fun i => !decide (Tm (12 * x0 + i) = Tm (12 * y0 + i))) i) + 0 : Nat) : Int) from rfl]
      refine v_istore_n C [(3, .int (iI (((fb_ct (fun i => !decide (Tm (12 * x0 + i) = Tm (12 * y0 + i))) i) + 0 : Nat) : Int))), (0, .ref (mm)), (1, .int (iI ((x0 : Nat) : Int))), (2, .int (iI ((y0 : Nat) : Int))), (4, .int (iI ((i : Nat) : Int)))] dX6_differences_43 rfl (by decide) rfl ?_
      refine v_iinc C [(4, .int (iI (((i : Nat) : Int) + 1))), (3, .int (iI (((fb_ct (fun i => !decide (Tm (12 * x0 + i) = Tm (12 * y0 + i))) i) + 0 : Nat) : Int))), (0, .ref (mm)), (1, .int (iI ((x0 : Nat) : Int))), (2, .int (iI ((y0 : Nat) : Int)))] dX6_differences_44 4 rfl (by decide) rfl ?_
      rw [show ((i : Nat) : Int) + 1 = ((i + 1 : Nat) : Int) from rfl]
      refine v_goto C 16 dX6_differences_47 (by decide) ?_
      refine v_lv (lv' := [(0, .ref (mm)), (1, .int (iI ((x0 : Nat) : Int))), (2, .int (iI ((y0 : Nat) : Int))), (3, .int (iI (((fb_ct (fun i => !decide (Tm (12 * x0 + i) = Tm (12 * y0 + i))) i) + 0 : Nat) : Int))), (4, .int (iI ((i + 1 : Nat) : Int)))]) [2, 3, 4, 1, 0] rfl ?_
      rw [show (((fb_ct (fun i => !decide (Tm (12 * x0 + i) = Tm (12 * y0 + i))) i) + 0 : Nat) : Int) = ((fb_ct (fun i => !decide (Tm (12 * x0 + i) = Tm (12 * y0 + i))) (i + 1) : Nat) : Int) from (ct_fn c_6)]
      refine v_ws (ws' := wMM g mm b1 b2 b3 b4 b5 b6 b7 b8 b9 b10 b11 b12 b13 b14 b15 b16 b17 kinds ni cm first second An An Tm Tm bc hds tgs qc qi qo qs cn vals Nw Nw Kw Kw 0 ++ ([])) rfl ?_
      exact ih16 (i + 1) (by omega) (by omega)
set_option maxHeartbeats 4000000 in
set_option maxRecDepth 100000 in
theorem kX6_differences_a (l : Launch) (g : vG) {mm b1 b2 b3 b4 b5 b6 b7 b8 b9 b10 b11 b12 b13 b14 b15 b16 b17 : Nat} {kinds tgs first second vals qs : Nat → Int} {hds An qi qo Tm Nw Kw ris : Nat → Nat} {ni bc cm cn qc cd : Nat} {x : Int} {y : Int} (hI : MI vals ris cn kinds tgs first second qs hds An qi qo Tm ni bc cm qc) (hx : b31 x) (hqx : ¬ (0 ≤ x ∧ x < ((cm : Nat) : Int))) (hy : b31 y)  : mI l g yX6_differences wsX6_differences ({ frames := 3, cells := 0, slots := 0, locals := 65 }) [.ref (mm), .int (iI (x)), .int (iI (y))] (wMM g mm b1 b2 b3 b4 b5 b6 b7 b8 b9 b10 b11 b12 b13 b14 b15 b16 b17 kinds ni cm first second An An Tm Tm bc hds tgs qc qi qo qs cn vals Nw Nw Kw Kw cd ++ ([])) (fun _ : Unit => wMM g mm b1 b2 b3 b4 b5 b6 b7 b8 b9 b10 b11 b12 b13 b14 b15 b16 b17 kinds ni cm first second An An Tm Tm bc hds tgs qc qi qo qs cn vals Nw Nw Kw Kw 1 ++ ([])) (fun _ _ => True) 0 0 := by
  refine mI_of (cc := cX6_differences) (maxL := 5) (ret := (some .int)) (own := RX6) (by decide) rfl rfl (Nat.le_of_ble_eq_true rfl) ?_
  intro p e s m args below meth c A C hr hl hin
  obtain ⟨hni, hbc1, hbc, hcm1, hcm, hcn1, hnm, hqc, hhd, htg, hf, hs, hfc, hsc, hAn, hTm, hao, hpal, hqb, hqi, htk, hkd⟩ := id hI
  have hx1 := hx.1
  have hx2 := hx.2
  have hy1 := hy.1
  have hy2 := hy.2
  refine v_aload_n C dX6_differences_0 rfl 0 rfl ?_
  refine v_iload_n C dX6_differences_1 rfl 1 rfl ?_
  refine v_iload_n C dX6_differences_2 rfl 2 rfl ?_
  refine v_invVI C (As := [.int (iI (x)), .int (iI (y))]) (q0 := 0) (ci := 6) (kX6_isNoPair_a l g (mm := mm) (b1 := b1) (b2 := b2) (b3 := b3) (b4 := b4) (b5 := b5) (b6 := b6) (b7 := b7) (b8 := b8) (b9 := b9) (b10 := b10) (b11 := b11) (b12 := b12) (b13 := b13) (b14 := b14) (b15 := b15) (b16 := b16) (b17 := b17) (kinds := kinds) (tgs := tgs) (first := first) (second := second) (vals := vals) (qs := qs) (hds := hds) (An := An) (qi := qi) (qo := qo) (Tm := Tm) (Nw := Nw) (Kw := Kw) (ni := ni) (bc := bc) (cm := cm) (cn := cn) (qc := qc) (cd := cd) (ris := ris) (x := x) (y := y) ⟨by omega, by omega⟩ (by omega) (by omega) (by omega)) (cwV 2 C.2.2.2.2.1 gX6_differences_X6_isNoPair rfl rfl rfl (by decide +kernel) ⟨Nat.le_of_ble_eq_true rfl, Nat.le_of_ble_eq_true rfl⟩) [wMM g mm b1 b2 b3 b4 b5 b6 b7 b8 b9 b10 b11 b12 b13 b14 b15 b16 b17 kinds ni cm first second An An Tm Tm bc hds tgs qc qi qo qs cn vals Nw Nw Kw Kw cd] [0] [] [] (fun _ => [wMM g mm b1 b2 b3 b4 b5 b6 b7 b8 b9 b10 b11 b12 b13 b14 b15 b16 b17 kinds ni cm first second An An Tm Tm bc hds tgs qc qi qo qs cn vals Nw Nw Kw Kw 1]) (fun _ => wMM g mm b1 b2 b3 b4 b5 b6 b7 b8 b9 b10 b11 b12 b13 b14 b15 b16 b17 kinds ni cm first second An An Tm Tm bc hds tgs qc qi qo qs cn vals Nw Nw Kw Kw 1 ++ ([])) rfl rfl rfl (fun _ => rfl) (fun _ => rfl) (fun _ => rfl) (fun _ => rfl) rfl rfl rfl rfl rfl (Nat.le_of_ble_eq_true rfl) dX6_differences_3 ⟨by decide, by decide⟩ (fun r_2 _ h_1 => ?_)
  subst h_1
  refine v_ifz_eq C 11 dX6_differences_6 (by decide) (fun h => nomatch h) (fun _ => ?_)
  refine v_iconst C (z := 0) dX6_differences_9 ?_
  exact (v_iret C hr hl () (by decide) (by decide) rfl trivial dX6_differences_10)
set_option maxHeartbeats 4000000 in
set_option maxRecDepth 100000 in
theorem kX6_differences_b (l : Launch) (g : vG) {mm b1 b2 b3 b4 b5 b6 b7 b8 b9 b10 b11 b12 b13 b14 b15 b16 b17 : Nat} {kinds tgs first second vals qs : Nat → Int} {hds An qi qo Tm Nw Kw ris : Nat → Nat} {ni bc cm cn qc cd : Nat} {x0 : Nat} {y : Int} (hI : MI vals ris cn kinds tgs first second qs hds An qi qo Tm ni bc cm qc) (hx0 : x0 < cm) (hy : b31 y) (hqy : ¬ (0 ≤ y ∧ y < ((cm : Nat) : Int)))  : mI l g yX6_differences wsX6_differences ({ frames := 3, cells := 0, slots := 0, locals := 65 }) [.ref (mm), .int (iI ((x0 : Nat) : Int)), .int (iI (y))] (wMM g mm b1 b2 b3 b4 b5 b6 b7 b8 b9 b10 b11 b12 b13 b14 b15 b16 b17 kinds ni cm first second An An Tm Tm bc hds tgs qc qi qo qs cn vals Nw Nw Kw Kw cd ++ ([])) (fun _ : Unit => wMM g mm b1 b2 b3 b4 b5 b6 b7 b8 b9 b10 b11 b12 b13 b14 b15 b16 b17 kinds ni cm first second An An Tm Tm bc hds tgs qc qi qo qs cn vals Nw Nw Kw Kw 1 ++ ([])) (fun _ _ => True) 0 0 := by
  refine mI_of (cc := cX6_differences) (maxL := 5) (ret := (some .int)) (own := RX6) (by decide) rfl rfl (Nat.le_of_ble_eq_true rfl) ?_
  intro p e s m args below meth c A C hr hl hin
  obtain ⟨hni, hbc1, hbc, hcm1, hcm, hcn1, hnm, hqc, hhd, htg, hf, hs, hfc, hsc, hAn, hTm, hao, hpal, hqb, hqi, htk, hkd⟩ := id hI
  have hy1 := hy.1
  have hy2 := hy.2
  refine v_aload_n C dX6_differences_0 rfl 0 rfl ?_
  refine v_iload_n C dX6_differences_1 rfl 1 rfl ?_
  refine v_iload_n C dX6_differences_2 rfl 2 rfl ?_
  refine v_invVI C (As := [.int (iI ((x0 : Nat) : Int)), .int (iI (y))]) (q0 := 0) (ci := 6) (kX6_isNoPair_b l g (mm := mm) (b1 := b1) (b2 := b2) (b3 := b3) (b4 := b4) (b5 := b5) (b6 := b6) (b7 := b7) (b8 := b8) (b9 := b9) (b10 := b10) (b11 := b11) (b12 := b12) (b13 := b13) (b14 := b14) (b15 := b15) (b16 := b16) (b17 := b17) (kinds := kinds) (tgs := tgs) (first := first) (second := second) (vals := vals) (qs := qs) (hds := hds) (An := An) (qi := qi) (qo := qo) (Tm := Tm) (Nw := Nw) (Kw := Kw) (ni := ni) (bc := bc) (cm := cm) (cn := cn) (qc := qc) (cd := cd) (ris := ris) (i0 := x0) (y := y) (by omega) ⟨by omega, by omega⟩ (by omega) (by omega) (by omega)) (cwV 2 C.2.2.2.2.1 gX6_differences_X6_isNoPair rfl rfl rfl (by decide +kernel) ⟨Nat.le_of_ble_eq_true rfl, Nat.le_of_ble_eq_true rfl⟩) [wMM g mm b1 b2 b3 b4 b5 b6 b7 b8 b9 b10 b11 b12 b13 b14 b15 b16 b17 kinds ni cm first second An An Tm Tm bc hds tgs qc qi qo qs cn vals Nw Nw Kw Kw cd] [0] [] [] (fun _ => [wMM g mm b1 b2 b3 b4 b5 b6 b7 b8 b9 b10 b11 b12 b13 b14 b15 b16 b17 kinds ni cm first second An An Tm Tm bc hds tgs qc qi qo qs cn vals Nw Nw Kw Kw 1]) (fun _ => wMM g mm b1 b2 b3 b4 b5 b6 b7 b8 b9 b10 b11 b12 b13 b14 b15 b16 b17 kinds ni cm first second An An Tm Tm bc hds tgs qc qi qo qs cn vals Nw Nw Kw Kw 1 ++ ([])) rfl rfl rfl (fun _ => rfl) (fun _ => rfl) (fun _ => rfl) (fun _ => rfl) rfl rfl rfl rfl rfl (Nat.le_of_ble_eq_true rfl) dX6_differences_3 ⟨by decide, by decide⟩ (fun r_2 _ h_1 => ?_)
  subst h_1
  refine v_ifz_eq C 11 dX6_differences_6 (by decide) (fun h => nomatch h) (fun _ => ?_)
  refine v_iconst C (z := 0) dX6_differences_9 ?_
  exact (v_iret C hr hl () (by decide) (by decide) rfl trivial dX6_differences_10)
set_option maxHeartbeats 4000000 in
set_option maxRecDepth 100000 in
theorem kX6_blame_ok (l : Launch) (g : vG) {mm b1 b2 b3 b4 b5 b6 b7 b8 b9 b10 b11 b12 b13 b14 b15 b16 b17 : Nat} {kinds tgs first second vals qs : Nat → Int} {hds An qi qo Tm Nw Kw ris : Nat → Nat} {ni bc cm cn qc cd : Nat} {x0 : Nat} {y0 : Nat} (hI : MI vals ris cn kinds tgs first second qs hds An qi qo Tm ni bc cm qc) (hx0 : x0 < cm) (hy0 : y0 < ni)  : mI l g yX6_blame wsX6_blame ({ frames := 3, cells := 0, slots := 0, locals := 67 }) [.ref (mm), .int (iI ((x0 : Nat) : Int)), .int (iI ((y0 : Nat) : Int))] (wMM g mm b1 b2 b3 b4 b5 b6 b7 b8 b9 b10 b11 b12 b13 b14 b15 b16 b17 kinds ni cm first second An An Tm Tm bc hds tgs qc qi qo qs cn vals Nw Nw Kw Kw cd ++ ([])) (fun _ : Unit => wMM g mm b1 b2 b3 b4 b5 b6 b7 b8 b9 b10 b11 b12 b13 b14 b15 b16 b17 kinds ni cm first second An An Tm Tm bc hds tgs qc qi qo qs cn vals Nw Nw Kw Kw 0 ++ ([])) (fun v _ => v = iI ((blm Tm first second y0 100 x0 : Nat) : Int)) 0 0 := by
  refine mI_of (cc := cX6_blame) (maxL := 3) (ret := (some .int)) (own := RX6) (by decide) rfl rfl (Nat.le_of_ble_eq_true rfl) ?_
  intro p e s m args below meth c A C hr hl hin
  obtain ⟨hni, hbc1, hbc, hcm1, hcm, hcn1, hnm, hqc, hhd, htg, hf, hs, hfc, hsc, hAn, hTm, hao, hpal, hqb, hqi, htk, hkd⟩ := id hI
  refine v_aload_n C dX6_blame_0 rfl 0 rfl ?_
  refine v_iload_n C dX6_blame_1 rfl 1 rfl ?_
  refine v_iload_n C dX6_blame_2 rfl 2 rfl ?_
  refine v_invVI C (As := [.int (iI ((x0 : Nat) : Int)), .int (iI ((y0 : Nat) : Int))]) (q0 := 0) (ci := 6) (kX6_isNoPlace_in l g (mm := mm) (b1 := b1) (b2 := b2) (b3 := b3) (b4 := b4) (b5 := b5) (b6 := b6) (b7 := b7) (b8 := b8) (b9 := b9) (b10 := b10) (b11 := b11) (b12 := b12) (b13 := b13) (b14 := b14) (b15 := b15) (b16 := b16) (b17 := b17) (kinds := kinds) (tgs := tgs) (first := first) (second := second) (vals := vals) (qs := qs) (hds := hds) (An := An) (qi := qi) (qo := qo) (Tm := Tm) (Nw := Nw) (Kw := Kw) (ni := ni) (bc := bc) (cm := cm) (cn := cn) (qc := qc) (cd := cd) (ris := ris) (i0 := x0) (j0 := y0) (by omega) (by omega) (by omega) (by omega)) (cwV 2 C.2.2.2.2.1 gX6_blame_X6_isNoPlace rfl rfl rfl (by decide +kernel) ⟨Nat.le_of_ble_eq_true rfl, Nat.le_of_ble_eq_true rfl⟩) [wMM g mm b1 b2 b3 b4 b5 b6 b7 b8 b9 b10 b11 b12 b13 b14 b15 b16 b17 kinds ni cm first second An An Tm Tm bc hds tgs qc qi qo qs cn vals Nw Nw Kw Kw cd] [0] [] [] (fun _ => [wMM g mm b1 b2 b3 b4 b5 b6 b7 b8 b9 b10 b11 b12 b13 b14 b15 b16 b17 kinds ni cm first second An An Tm Tm bc hds tgs qc qi qo qs cn vals Nw Nw Kw Kw 0]) (fun _ => wMM g mm b1 b2 b3 b4 b5 b6 b7 b8 b9 b10 b11 b12 b13 b14 b15 b16 b17 kinds ni cm first second An An Tm Tm bc hds tgs qc qi qo qs cn vals Nw Nw Kw Kw 0 ++ ([])) rfl rfl rfl (fun _ => rfl) (fun _ => rfl) (fun _ => rfl) (fun _ => rfl) rfl rfl rfl rfl rfl (Nat.le_of_ble_eq_true rfl) dX6_blame_3 ⟨by decide, by decide⟩ (fun r_2 _ h_1 => ?_)
  subst h_1
  refine v_ifz_eq C 13 dX6_blame_6 (by decide) (fun _ => ?_) (fun h => nomatch h) 
  refine v_aload_n C dX6_blame_13 rfl 0 rfl ?_
  refine v_iload_n C dX6_blame_14 rfl 1 rfl ?_
  refine v_iload_n C dX6_blame_15 rfl 2 rfl ?_
  refine v_invVI C (As := [.int (iI ((x0 : Nat) : Int)), .int (iI ((y0 : Nat) : Int))]) (q0 := 0) (ci := 6) (kX6_blameOf l g (mm := mm) (b1 := b1) (b2 := b2) (b3 := b3) (b4 := b4) (b5 := b5) (b6 := b6) (b7 := b7) (b8 := b8) (b9 := b9) (b10 := b10) (b11 := b11) (b12 := b12) (b13 := b13) (b14 := b14) (b15 := b15) (b16 := b16) (b17 := b17) (kinds := kinds) (tgs := tgs) (first := first) (second := second) (vals := vals) (qs := qs) (hds := hds) (An := An) (qi := qi) (qo := qo) (Tm := Tm) (Nw := Nw) (Kw := Kw) (ni := ni) (bc := bc) (cm := cm) (cn := cn) (qc := qc) (cd := 0) (ris := ris) (c0 := x0) (i0 := y0) hI (by omega) (by omega)) (cwV 2 C.2.2.2.2.1 gX6_blame_X6_blameOf rfl rfl rfl (by decide +kernel) ⟨Nat.le_of_ble_eq_true rfl, Nat.le_of_ble_eq_true rfl⟩) [wMM g mm b1 b2 b3 b4 b5 b6 b7 b8 b9 b10 b11 b12 b13 b14 b15 b16 b17 kinds ni cm first second An An Tm Tm bc hds tgs qc qi qo qs cn vals Nw Nw Kw Kw 0] [0] [] [] (fun _ => [wMM g mm b1 b2 b3 b4 b5 b6 b7 b8 b9 b10 b11 b12 b13 b14 b15 b16 b17 kinds ni cm first second An An Tm Tm bc hds tgs qc qi qo qs cn vals Nw Nw Kw Kw 0]) (fun _ => wMM g mm b1 b2 b3 b4 b5 b6 b7 b8 b9 b10 b11 b12 b13 b14 b15 b16 b17 kinds ni cm first second An An Tm Tm bc hds tgs qc qi qo qs cn vals Nw Nw Kw Kw 0 ++ ([])) rfl rfl rfl (fun _ => rfl) (fun _ => rfl) (fun _ => rfl) (fun _ => rfl) rfl rfl rfl rfl rfl (Nat.le_of_ble_eq_true rfl) dX6_blame_16 ⟨by decide, by decide⟩ (fun r_4 _ h_3 => ?_)
  subst h_3
  exact (v_iret C hr hl () (by decide) (by decide) rfl rfl dX6_blame_19)
set_option maxHeartbeats 4000000 in
set_option maxRecDepth 100000 in
theorem kX6_blame_a (l : Launch) (g : vG) {mm b1 b2 b3 b4 b5 b6 b7 b8 b9 b10 b11 b12 b13 b14 b15 b16 b17 : Nat} {kinds tgs first second vals qs : Nat → Int} {hds An qi qo Tm Nw Kw ris : Nat → Nat} {ni bc cm cn qc cd : Nat} {x : Int} {y : Int} (hI : MI vals ris cn kinds tgs first second qs hds An qi qo Tm ni bc cm qc) (hx : b31 x) (hqx : ¬ (0 ≤ x ∧ x < ((cm : Nat) : Int))) (hy : b31 y)  : mI l g yX6_blame wsX6_blame ({ frames := 3, cells := 0, slots := 0, locals := 65 }) [.ref (mm), .int (iI (x)), .int (iI (y))] (wMM g mm b1 b2 b3 b4 b5 b6 b7 b8 b9 b10 b11 b12 b13 b14 b15 b16 b17 kinds ni cm first second An An Tm Tm bc hds tgs qc qi qo qs cn vals Nw Nw Kw Kw cd ++ ([])) (fun _ : Unit => wMM g mm b1 b2 b3 b4 b5 b6 b7 b8 b9 b10 b11 b12 b13 b14 b15 b16 b17 kinds ni cm first second An An Tm Tm bc hds tgs qc qi qo qs cn vals Nw Nw Kw Kw 1 ++ ([])) (fun _ _ => True) 0 0 := by
  refine mI_of (cc := cX6_blame) (maxL := 3) (ret := (some .int)) (own := RX6) (by decide) rfl rfl (Nat.le_of_ble_eq_true rfl) ?_
  intro p e s m args below meth c A C hr hl hin
  obtain ⟨hni, hbc1, hbc, hcm1, hcm, hcn1, hnm, hqc, hhd, htg, hf, hs, hfc, hsc, hAn, hTm, hao, hpal, hqb, hqi, htk, hkd⟩ := id hI
  have hx1 := hx.1
  have hx2 := hx.2
  have hy1 := hy.1
  have hy2 := hy.2
  refine v_aload_n C dX6_blame_0 rfl 0 rfl ?_
  refine v_iload_n C dX6_blame_1 rfl 1 rfl ?_
  refine v_iload_n C dX6_blame_2 rfl 2 rfl ?_
  refine v_invVI C (As := [.int (iI (x)), .int (iI (y))]) (q0 := 0) (ci := 6) (kX6_isNoPlace_a l g (mm := mm) (b1 := b1) (b2 := b2) (b3 := b3) (b4 := b4) (b5 := b5) (b6 := b6) (b7 := b7) (b8 := b8) (b9 := b9) (b10 := b10) (b11 := b11) (b12 := b12) (b13 := b13) (b14 := b14) (b15 := b15) (b16 := b16) (b17 := b17) (kinds := kinds) (tgs := tgs) (first := first) (second := second) (vals := vals) (qs := qs) (hds := hds) (An := An) (qi := qi) (qo := qo) (Tm := Tm) (Nw := Nw) (Kw := Kw) (ni := ni) (bc := bc) (cm := cm) (cn := cn) (qc := qc) (cd := cd) (ris := ris) (x := x) (y := y) ⟨by omega, by omega⟩ (by omega) (by omega) (by omega)) (cwV 2 C.2.2.2.2.1 gX6_blame_X6_isNoPlace rfl rfl rfl (by decide +kernel) ⟨Nat.le_of_ble_eq_true rfl, Nat.le_of_ble_eq_true rfl⟩) [wMM g mm b1 b2 b3 b4 b5 b6 b7 b8 b9 b10 b11 b12 b13 b14 b15 b16 b17 kinds ni cm first second An An Tm Tm bc hds tgs qc qi qo qs cn vals Nw Nw Kw Kw cd] [0] [] [] (fun _ => [wMM g mm b1 b2 b3 b4 b5 b6 b7 b8 b9 b10 b11 b12 b13 b14 b15 b16 b17 kinds ni cm first second An An Tm Tm bc hds tgs qc qi qo qs cn vals Nw Nw Kw Kw 1]) (fun _ => wMM g mm b1 b2 b3 b4 b5 b6 b7 b8 b9 b10 b11 b12 b13 b14 b15 b16 b17 kinds ni cm first second An An Tm Tm bc hds tgs qc qi qo qs cn vals Nw Nw Kw Kw 1 ++ ([])) rfl rfl rfl (fun _ => rfl) (fun _ => rfl) (fun _ => rfl) (fun _ => rfl) rfl rfl rfl rfl rfl (Nat.le_of_ble_eq_true rfl) dX6_blame_3 ⟨by decide, by decide⟩ (fun r_2 _ h_1 => ?_)
  subst h_1
  refine v_ifz_eq C 13 dX6_blame_6 (by decide) (fun h => nomatch h) (fun _ => ?_)
  refine v_iconst C (z := 0) dX6_blame_9 ?_
  refine v_goto C 19 dX6_blame_10 (by decide) ?_
  exact (v_iret C hr hl () (by decide) (by decide) rfl trivial dX6_blame_19)
set_option maxHeartbeats 4000000 in
set_option maxRecDepth 100000 in
theorem kX6_blame_b (l : Launch) (g : vG) {mm b1 b2 b3 b4 b5 b6 b7 b8 b9 b10 b11 b12 b13 b14 b15 b16 b17 : Nat} {kinds tgs first second vals qs : Nat → Int} {hds An qi qo Tm Nw Kw ris : Nat → Nat} {ni bc cm cn qc cd : Nat} {x0 : Nat} {y : Int} (hI : MI vals ris cn kinds tgs first second qs hds An qi qo Tm ni bc cm qc) (hx0 : x0 < cm) (hy : b31 y) (hqy : ¬ (0 ≤ y ∧ y < ((ni : Nat) : Int)))  : mI l g yX6_blame wsX6_blame ({ frames := 3, cells := 0, slots := 0, locals := 65 }) [.ref (mm), .int (iI ((x0 : Nat) : Int)), .int (iI (y))] (wMM g mm b1 b2 b3 b4 b5 b6 b7 b8 b9 b10 b11 b12 b13 b14 b15 b16 b17 kinds ni cm first second An An Tm Tm bc hds tgs qc qi qo qs cn vals Nw Nw Kw Kw cd ++ ([])) (fun _ : Unit => wMM g mm b1 b2 b3 b4 b5 b6 b7 b8 b9 b10 b11 b12 b13 b14 b15 b16 b17 kinds ni cm first second An An Tm Tm bc hds tgs qc qi qo qs cn vals Nw Nw Kw Kw 1 ++ ([])) (fun _ _ => True) 0 0 := by
  refine mI_of (cc := cX6_blame) (maxL := 3) (ret := (some .int)) (own := RX6) (by decide) rfl rfl (Nat.le_of_ble_eq_true rfl) ?_
  intro p e s m args below meth c A C hr hl hin
  obtain ⟨hni, hbc1, hbc, hcm1, hcm, hcn1, hnm, hqc, hhd, htg, hf, hs, hfc, hsc, hAn, hTm, hao, hpal, hqb, hqi, htk, hkd⟩ := id hI
  have hy1 := hy.1
  have hy2 := hy.2
  refine v_aload_n C dX6_blame_0 rfl 0 rfl ?_
  refine v_iload_n C dX6_blame_1 rfl 1 rfl ?_
  refine v_iload_n C dX6_blame_2 rfl 2 rfl ?_
  refine v_invVI C (As := [.int (iI ((x0 : Nat) : Int)), .int (iI (y))]) (q0 := 0) (ci := 6) (kX6_isNoPlace_b l g (mm := mm) (b1 := b1) (b2 := b2) (b3 := b3) (b4 := b4) (b5 := b5) (b6 := b6) (b7 := b7) (b8 := b8) (b9 := b9) (b10 := b10) (b11 := b11) (b12 := b12) (b13 := b13) (b14 := b14) (b15 := b15) (b16 := b16) (b17 := b17) (kinds := kinds) (tgs := tgs) (first := first) (second := second) (vals := vals) (qs := qs) (hds := hds) (An := An) (qi := qi) (qo := qo) (Tm := Tm) (Nw := Nw) (Kw := Kw) (ni := ni) (bc := bc) (cm := cm) (cn := cn) (qc := qc) (cd := cd) (ris := ris) (i0 := x0) (y := y) (by omega) ⟨by omega, by omega⟩ (by omega) (by omega) (by omega)) (cwV 2 C.2.2.2.2.1 gX6_blame_X6_isNoPlace rfl rfl rfl (by decide +kernel) ⟨Nat.le_of_ble_eq_true rfl, Nat.le_of_ble_eq_true rfl⟩) [wMM g mm b1 b2 b3 b4 b5 b6 b7 b8 b9 b10 b11 b12 b13 b14 b15 b16 b17 kinds ni cm first second An An Tm Tm bc hds tgs qc qi qo qs cn vals Nw Nw Kw Kw cd] [0] [] [] (fun _ => [wMM g mm b1 b2 b3 b4 b5 b6 b7 b8 b9 b10 b11 b12 b13 b14 b15 b16 b17 kinds ni cm first second An An Tm Tm bc hds tgs qc qi qo qs cn vals Nw Nw Kw Kw 1]) (fun _ => wMM g mm b1 b2 b3 b4 b5 b6 b7 b8 b9 b10 b11 b12 b13 b14 b15 b16 b17 kinds ni cm first second An An Tm Tm bc hds tgs qc qi qo qs cn vals Nw Nw Kw Kw 1 ++ ([])) rfl rfl rfl (fun _ => rfl) (fun _ => rfl) (fun _ => rfl) (fun _ => rfl) rfl rfl rfl rfl rfl (Nat.le_of_ble_eq_true rfl) dX6_blame_3 ⟨by decide, by decide⟩ (fun r_2 _ h_1 => ?_)
  subst h_1
  refine v_ifz_eq C 13 dX6_blame_6 (by decide) (fun h => nomatch h) (fun _ => ?_)
  refine v_iconst C (z := 0) dX6_blame_9 ?_
  refine v_goto C 19 dX6_blame_10 (by decide) ?_
  exact (v_iret C hr hl () (by decide) (by decide) rfl trivial dX6_blame_19)
theorem inX6_blamed_6 : ∀ w ∈ u_ws RX6 TX6 23, w ∈ wsX6_blamed := by decide +kernel
theorem lkX6_blamed_76 : Cond.fieldLink RX6 76 "MergeAtelierModel" "items" "I" ∈ wsX6_blamed := by decide +kernel
set_option maxHeartbeats 4000000 in
set_option maxRecDepth 100000 in
theorem kX6_blamed_ok (l : Launch) (g : vG) {mm b1 b2 b3 b4 b5 b6 b7 b8 b9 b10 b11 b12 b13 b14 b15 b16 b17 : Nat} {kinds tgs first second vals qs : Nat → Int} {hds An qi qo Tm Nw Kw ris : Nat → Nat} {ni bc cm cn qc cd : Nat} {x0 : Nat} {y0 : Nat} (hI : MI vals ris cn kinds tgs first second qs hds An qi qo Tm ni bc cm qc) (hx0 : x0 < cm) (hy0 : y0 < cm)  : mI l g yX6_blamed wsX6_blamed ({ frames := 3, cells := 0, slots := 0, locals := 67 }) [.ref (mm), .int (iI ((x0 : Nat) : Int)), .int (iI ((y0 : Nat) : Int))] (wMM g mm b1 b2 b3 b4 b5 b6 b7 b8 b9 b10 b11 b12 b13 b14 b15 b16 b17 kinds ni cm first second An An Tm Tm bc hds tgs qc qi qo qs cn vals Nw Nw Kw Kw cd ++ ([])) (fun _ : Unit => wMM g mm b1 b2 b3 b4 b5 b6 b7 b8 b9 b10 b11 b12 b13 b14 b15 b16 b17 kinds ni cm first second An An Tm Tm bc hds tgs qc qi qo qs cn vals Nw Nw Kw Kw 0 ++ ([])) (fun v _ => v = iI ((fb_ct (fun i => decide (blm Tm first second i 100 x0 = y0)) ni : Nat) : Int)) 0 0 := by
  refine mI_of (cc := cX6_blamed) (maxL := 5) (ret := (some .int)) (own := RX6) (by decide) rfl rfl (Nat.le_of_ble_eq_true rfl) ?_
  intro p e s m args below meth c A C hr hl hin
  obtain ⟨hni, hbc1, hbc, hcm1, hcm, hcn1, hnm, hqc, hhd, htg, hf, hs, hfc, hsc, hAn, hTm, hao, hpal, hqb, hqi, htk, hkd⟩ := id hI
  refine v_aload_n C dX6_blamed_0 rfl 0 rfl ?_
  refine v_iload_n C dX6_blamed_1 rfl 1 rfl ?_
  refine v_iload_n C dX6_blamed_2 rfl 2 rfl ?_
  refine v_invVI C (As := [.int (iI ((x0 : Nat) : Int)), .int (iI ((y0 : Nat) : Int))]) (q0 := 0) (ci := 6) (kX6_isNoPair_in l g (mm := mm) (b1 := b1) (b2 := b2) (b3 := b3) (b4 := b4) (b5 := b5) (b6 := b6) (b7 := b7) (b8 := b8) (b9 := b9) (b10 := b10) (b11 := b11) (b12 := b12) (b13 := b13) (b14 := b14) (b15 := b15) (b16 := b16) (b17 := b17) (kinds := kinds) (tgs := tgs) (first := first) (second := second) (vals := vals) (qs := qs) (hds := hds) (An := An) (qi := qi) (qo := qo) (Tm := Tm) (Nw := Nw) (Kw := Kw) (ni := ni) (bc := bc) (cm := cm) (cn := cn) (qc := qc) (cd := cd) (ris := ris) (i0 := x0) (j0 := y0) (by omega) (by omega) (by omega) (by omega)) (cwV 2 C.2.2.2.2.1 gX6_blamed_X6_isNoPair rfl rfl rfl (by decide +kernel) ⟨Nat.le_of_ble_eq_true rfl, Nat.le_of_ble_eq_true rfl⟩) [wMM g mm b1 b2 b3 b4 b5 b6 b7 b8 b9 b10 b11 b12 b13 b14 b15 b16 b17 kinds ni cm first second An An Tm Tm bc hds tgs qc qi qo qs cn vals Nw Nw Kw Kw cd] [0] [] [] (fun _ => [wMM g mm b1 b2 b3 b4 b5 b6 b7 b8 b9 b10 b11 b12 b13 b14 b15 b16 b17 kinds ni cm first second An An Tm Tm bc hds tgs qc qi qo qs cn vals Nw Nw Kw Kw 0]) (fun _ => wMM g mm b1 b2 b3 b4 b5 b6 b7 b8 b9 b10 b11 b12 b13 b14 b15 b16 b17 kinds ni cm first second An An Tm Tm bc hds tgs qc qi qo qs cn vals Nw Nw Kw Kw 0 ++ ([])) rfl rfl rfl (fun _ => rfl) (fun _ => rfl) (fun _ => rfl) (fun _ => rfl) rfl rfl rfl rfl rfl (Nat.le_of_ble_eq_true rfl) dX6_blamed_3 ⟨by decide, by decide⟩ (fun r_2 _ h_1 => ?_)
  subst h_1
  refine v_ifz_eq C 11 dX6_blamed_6 (by decide) (fun _ => ?_) (fun h => nomatch h) 
  refine v_iconst C (z := 0) dX6_blamed_11 ?_
  refine v_istore_n C [(3, .int (iI (0))), (0, .ref (mm)), (1, .int (iI ((x0 : Nat) : Int))), (2, .int (iI ((y0 : Nat) : Int)))] dX6_blamed_12 rfl (by decide) rfl ?_
  refine v_iconst C (z := 0) dX6_blamed_13 ?_
  refine v_istore C [(4, .int (iI (0))), (3, .int (iI (0))), (0, .ref (mm)), (1, .int (iI ((x0 : Nat) : Int))), (2, .int (iI ((y0 : Nat) : Int)))] dX6_blamed_14 (by decide) rfl ?_
  refine v_lv (lv' := [(0, .ref (mm)), (1, .int (iI ((x0 : Nat) : Int))), (2, .int (iI ((y0 : Nat) : Int))), (3, .int (iI ((fb_ct (fun i => decide (blm Tm first second i 100 x0 = y0)) 0 : Nat) : Int))), (4, .int (iI ((0 : Nat) : Int)))]) [2, 3, 4, 1, 0] rfl ?_
  refine v_ws (ws' := wMM g mm b1 b2 b3 b4 b5 b6 b7 b8 b9 b10 b11 b12 b13 b14 b15 b16 b17 kinds ni cm first second An An Tm Tm bc hds tgs qc qi qo qs cn vals Nw Nw Kw Kw 0 ++ ([])) rfl ?_
  refine v_lp1 (X := Nat) (fun i => wMM g mm b1 b2 b3 b4 b5 b6 b7 b8 b9 b10 b11 b12 b13 b14 b15 b16 b17 kinds ni cm first second An An Tm Tm bc hds tgs qc qi qo qs cn vals Nw Nw Kw Kw 0 ++ ([])) (fun i => [(0, .ref (mm)), (1, .int (iI ((x0 : Nat) : Int))), (2, .int (iI ((y0 : Nat) : Int))), (3, .int (iI ((fb_ct (fun i => decide (blm Tm first second i 100 x0 = y0)) i : Nat) : Int))), (4, .int (iI ((i : Nat) : Int)))]) (fun i => ni - i) (fun i => i ≤ ni) ?_ (0) (Nat.zero_le _)
  intro i hJ16 ih16
  try dsimp only at hJ16 ⊢
  refine v_iload C dX6_blamed_16 4 rfl ?_
  refine v_aload_n C dX6_blamed_18 rfl 0 rfl ?_
  refine v_get C 0 (kf := 0) rfl rfl (by decide) inX6_blamed_6 lkX6_blamed_76 rfl rfl dX6_blamed_19 ?_
  refine v_icmp_ge C 50 dX6_blamed_22 (by decide) ⟨by omega, by omega⟩ ⟨by omega, by omega⟩ (fun c_3 => ?_) (fun c_3 => ?_)
  ·
    obtain rfl : ni = i := by omega
    refine v_iload_n C dX6_blamed_50 rfl 3 rfl ?_
    exact (v_iret C hr hl () (by decide) (by decide) rfl rfl dX6_blamed_51)
  ·
    refine v_iload_n C dX6_blamed_25 rfl 3 rfl ?_
    refine v_aload_n C dX6_blamed_26 rfl 0 rfl ?_
    refine v_iload_n C dX6_blamed_27 rfl 1 rfl ?_
    refine v_iload C dX6_blamed_28 4 rfl ?_
    refine v_invVI C (As := [.int (iI ((x0 : Nat) : Int)), .int (iI ((i : Nat) : Int))]) (q0 := 0) (ci := 6) (kX6_blameOf l g (mm := mm) (b1 := b1) (b2 := b2) (b3 := b3) (b4 := b4) (b5 := b5) (b6 := b6) (b7 := b7) (b8 := b8) (b9 := b9) (b10 := b10) (b11 := b11) (b12 := b12) (b13 := b13) (b14 := b14) (b15 := b15) (b16 := b16) (b17 := b17) (kinds := kinds) (tgs := tgs) (first := first) (second := second) (vals := vals) (qs := qs) (hds := hds) (An := An) (qi := qi) (qo := qo) (Tm := Tm) (Nw := Nw) (Kw := Kw) (ni := ni) (bc := bc) (cm := cm) (cn := cn) (qc := qc) (cd := 0) (ris := ris) (c0 := x0) (i0 := i) hI (by omega) (by omega)) (cwV 2 C.2.2.2.2.1 gX6_blamed_X6_blameOf rfl rfl rfl (by decide +kernel) ⟨Nat.le_of_ble_eq_true rfl, Nat.le_of_ble_eq_true rfl⟩) [wMM g mm b1 b2 b3 b4 b5 b6 b7 b8 b9 b10 b11 b12 b13 b14 b15 b16 b17 kinds ni cm first second An An Tm Tm bc hds tgs qc qi qo qs cn vals Nw Nw Kw Kw 0] [0] [] [.int (iI ((fb_ct (fun i => decide (blm Tm first second i 100 x0 = y0)) i : Nat) : Int))] (fun _ => [wMM g mm b1 b2 b3 b4 b5 b6 b7 b8 b9 b10 b11 b12 b13 b14 b15 b16 b17 kinds ni cm first second An An Tm Tm bc hds tgs qc qi qo qs cn vals Nw Nw Kw Kw 0]) (fun _ => wMM g mm b1 b2 b3 b4 b5 b6 b7 b8 b9 b10 b11 b12 b13 b14 b15 b16 b17 kinds ni cm first second An An Tm Tm bc hds tgs qc qi qo qs cn vals Nw Nw Kw Kw 0 ++ ([])) rfl rfl rfl (fun _ => rfl) (fun _ => rfl) (fun _ => rfl) (fun _ => rfl) rfl rfl rfl rfl rfl (Nat.le_of_ble_eq_true rfl) dX6_blamed_30 ⟨by decide, by decide⟩ (fun r_5 _ h_4 => ?_)
    subst h_4
    have hb9 := blm_lt hf hs i 100 x0 (by omega : x0 < 100) (T := Tm)
    refine v_iload_n C dX6_blamed_33 rfl 2 rfl ?_
    refine v_icmp_ne C 41 dX6_blamed_34 (by decide) ⟨by omega, by omega⟩ ⟨by omega, by omega⟩ (fun c_6 => ?_) (fun c_6 => ?_)
    ·
      refine v_iconst C (z := 0) dX6_blamed_41 ?_
      refine v_iadd C dX6_blamed_42 ?_
      rw [show (((fb_ct (fun i => decide (blm Tm first second i 100 x0 = y0)) i : Nat) : Int)) + 0 = (((fb_ct (fun i => decide (blm Tm first second i 100 x0 = y0)) i) + 0 : Nat) : Int) from rfl]
      refine v_istore_n C [(3, .int (iI (((fb_ct (fun i => decide (blm Tm first second i 100 x0 = y0)) i) + 0 : Nat) : Int))), (0, .ref (mm)), (1, .int (iI ((x0 : Nat) : Int))), (2, .int (iI ((y0 : Nat) : Int))), (4, .int (iI ((i : Nat) : Int)))] dX6_blamed_43 rfl (by decide) rfl ?_
      refine v_iinc C [(4, .int (iI (((i : Nat) : Int) + 1))), (3, .int (iI (((fb_ct (fun i => decide (blm Tm first second i 100 x0 = y0)) i) + 0 : Nat) : Int))), (0, .ref (mm)), (1, .int (iI ((x0 : Nat) : Int))), (2, .int (iI ((y0 : Nat) : Int)))] dX6_blamed_44 4 rfl (by decide) rfl ?_
      rw [show ((i : Nat) : Int) + 1 = ((i + 1 : Nat) : Int) from rfl]
      refine v_goto C 16 dX6_blamed_47 (by decide) ?_
      refine v_lv (lv' := [(0, .ref (mm)), (1, .int (iI ((x0 : Nat) : Int))), (2, .int (iI ((y0 : Nat) : Int))), (3, .int (iI (((fb_ct (fun i => decide (blm Tm first second i 100 x0 = y0)) i) + 0 : Nat) : Int))), (4, .int (iI ((i + 1 : Nat) : Int)))]) [2, 3, 4, 1, 0] rfl ?_
      rw [show (((fb_ct (fun i => decide (blm Tm first second i 100 x0 = y0)) i) + 0 : Nat) : Int) = ((fb_ct (fun i => decide (blm Tm first second i 100 x0 = y0)) (i + 1) : Nat) : Int) from (ct_fz (decide_eq_false (by omega)))]
      refine v_ws (ws' := wMM g mm b1 b2 b3 b4 b5 b6 b7 b8 b9 b10 b11 b12 b13 b14 b15 b16 b17 kinds ni cm first second An An Tm Tm bc hds tgs qc qi qo qs cn vals Nw Nw Kw Kw 0 ++ ([])) rfl ?_
      exact ih16 (i + 1) (by omega) (by omega)
    ·
      refine v_iconst C (z := 1) dX6_blamed_37 ?_
      refine v_goto C 42 dX6_blamed_38 (by decide) ?_
      refine v_iadd C dX6_blamed_42 ?_
      rw [show (((fb_ct (fun i => decide (blm Tm first second i 100 x0 = y0)) i : Nat) : Int)) + 1 = (((fb_ct (fun i => decide (blm Tm first second i 100 x0 = y0)) i) + 1 : Nat) : Int) from rfl]
      refine v_istore_n C [(3, .int (iI (((fb_ct (fun i => decide (blm Tm first second i 100 x0 = y0)) i) + 1 : Nat) : Int))), (0, .ref (mm)), (1, .int (iI ((x0 : Nat) : Int))), (2, .int (iI ((y0 : Nat) : Int))), (4, .int (iI ((i : Nat) : Int)))] dX6_blamed_43 rfl (by decide) rfl ?_
      refine v_iinc C [(4, .int (iI (((i : Nat) : Int) + 1))), (3, .int (iI (((fb_ct (fun i => decide (blm Tm first second i 100 x0 = y0)) i) + 1 : Nat) : Int))), (0, .ref (mm)), (1, .int (iI ((x0 : Nat) : Int))), (2, .int (iI ((y0 : Nat) : Int)))] dX6_blamed_44 4 rfl (by decide) rfl ?_
      rw [show ((i : Nat) : Int) + 1 = ((i + 1 : Nat) : Int) from rfl]
      refine v_goto C 16 dX6_blamed_47 (by decide) ?_
      refine v_lv (lv' := [(0, .ref (mm)), (1, .int (iI ((x0 : Nat) : Int))), (2, .int (iI ((y0 : Nat) : Int))), (3, .int (iI (((fb_ct (fun i => decide (blm Tm first second i 100 x0 = y0)) i) + 1 : Nat) : Int))), (4, .int (iI ((i + 1 : Nat) : Int)))]) [2, 3, 4, 1, 0] rfl ?_
      rw [show (((fb_ct (fun i => decide (blm Tm first second i 100 x0 = y0)) i) + 1 : Nat) : Int) = ((fb_ct (fun i => decide (blm Tm first second i 100 x0 = y0)) (i + 1) : Nat) : Int) from (ct_tz (decide_eq_true (by omega)))]
      refine v_ws (ws' := wMM g mm b1 b2 b3 b4 b5 b6 b7 b8 b9 b10 b11 b12 b13 b14 b15 b16 b17 kinds ni cm first second An An Tm Tm bc hds tgs qc qi qo qs cn vals Nw Nw Kw Kw 0 ++ ([])) rfl ?_
      exact ih16 (i + 1) (by omega) (by omega)
set_option maxHeartbeats 4000000 in
set_option maxRecDepth 100000 in
theorem kX6_blamed_a (l : Launch) (g : vG) {mm b1 b2 b3 b4 b5 b6 b7 b8 b9 b10 b11 b12 b13 b14 b15 b16 b17 : Nat} {kinds tgs first second vals qs : Nat → Int} {hds An qi qo Tm Nw Kw ris : Nat → Nat} {ni bc cm cn qc cd : Nat} {x : Int} {y : Int} (hI : MI vals ris cn kinds tgs first second qs hds An qi qo Tm ni bc cm qc) (hx : b31 x) (hqx : ¬ (0 ≤ x ∧ x < ((cm : Nat) : Int))) (hy : b31 y)  : mI l g yX6_blamed wsX6_blamed ({ frames := 3, cells := 0, slots := 0, locals := 65 }) [.ref (mm), .int (iI (x)), .int (iI (y))] (wMM g mm b1 b2 b3 b4 b5 b6 b7 b8 b9 b10 b11 b12 b13 b14 b15 b16 b17 kinds ni cm first second An An Tm Tm bc hds tgs qc qi qo qs cn vals Nw Nw Kw Kw cd ++ ([])) (fun _ : Unit => wMM g mm b1 b2 b3 b4 b5 b6 b7 b8 b9 b10 b11 b12 b13 b14 b15 b16 b17 kinds ni cm first second An An Tm Tm bc hds tgs qc qi qo qs cn vals Nw Nw Kw Kw 1 ++ ([])) (fun _ _ => True) 0 0 := by
  refine mI_of (cc := cX6_blamed) (maxL := 5) (ret := (some .int)) (own := RX6) (by decide) rfl rfl (Nat.le_of_ble_eq_true rfl) ?_
  intro p e s m args below meth c A C hr hl hin
  obtain ⟨hni, hbc1, hbc, hcm1, hcm, hcn1, hnm, hqc, hhd, htg, hf, hs, hfc, hsc, hAn, hTm, hao, hpal, hqb, hqi, htk, hkd⟩ := id hI
  have hx1 := hx.1
  have hx2 := hx.2
  have hy1 := hy.1
  have hy2 := hy.2
  refine v_aload_n C dX6_blamed_0 rfl 0 rfl ?_
  refine v_iload_n C dX6_blamed_1 rfl 1 rfl ?_
  refine v_iload_n C dX6_blamed_2 rfl 2 rfl ?_
  refine v_invVI C (As := [.int (iI (x)), .int (iI (y))]) (q0 := 0) (ci := 6) (kX6_isNoPair_a l g (mm := mm) (b1 := b1) (b2 := b2) (b3 := b3) (b4 := b4) (b5 := b5) (b6 := b6) (b7 := b7) (b8 := b8) (b9 := b9) (b10 := b10) (b11 := b11) (b12 := b12) (b13 := b13) (b14 := b14) (b15 := b15) (b16 := b16) (b17 := b17) (kinds := kinds) (tgs := tgs) (first := first) (second := second) (vals := vals) (qs := qs) (hds := hds) (An := An) (qi := qi) (qo := qo) (Tm := Tm) (Nw := Nw) (Kw := Kw) (ni := ni) (bc := bc) (cm := cm) (cn := cn) (qc := qc) (cd := cd) (ris := ris) (x := x) (y := y) ⟨by omega, by omega⟩ (by omega) (by omega) (by omega)) (cwV 2 C.2.2.2.2.1 gX6_blamed_X6_isNoPair rfl rfl rfl (by decide +kernel) ⟨Nat.le_of_ble_eq_true rfl, Nat.le_of_ble_eq_true rfl⟩) [wMM g mm b1 b2 b3 b4 b5 b6 b7 b8 b9 b10 b11 b12 b13 b14 b15 b16 b17 kinds ni cm first second An An Tm Tm bc hds tgs qc qi qo qs cn vals Nw Nw Kw Kw cd] [0] [] [] (fun _ => [wMM g mm b1 b2 b3 b4 b5 b6 b7 b8 b9 b10 b11 b12 b13 b14 b15 b16 b17 kinds ni cm first second An An Tm Tm bc hds tgs qc qi qo qs cn vals Nw Nw Kw Kw 1]) (fun _ => wMM g mm b1 b2 b3 b4 b5 b6 b7 b8 b9 b10 b11 b12 b13 b14 b15 b16 b17 kinds ni cm first second An An Tm Tm bc hds tgs qc qi qo qs cn vals Nw Nw Kw Kw 1 ++ ([])) rfl rfl rfl (fun _ => rfl) (fun _ => rfl) (fun _ => rfl) (fun _ => rfl) rfl rfl rfl rfl rfl (Nat.le_of_ble_eq_true rfl) dX6_blamed_3 ⟨by decide, by decide⟩ (fun r_2 _ h_1 => ?_)
  subst h_1
  refine v_ifz_eq C 11 dX6_blamed_6 (by decide) (fun h => nomatch h) (fun _ => ?_)
  refine v_iconst C (z := 0) dX6_blamed_9 ?_
  exact (v_iret C hr hl () (by decide) (by decide) rfl trivial dX6_blamed_10)
set_option maxHeartbeats 4000000 in
set_option maxRecDepth 100000 in
theorem kX6_blamed_b (l : Launch) (g : vG) {mm b1 b2 b3 b4 b5 b6 b7 b8 b9 b10 b11 b12 b13 b14 b15 b16 b17 : Nat} {kinds tgs first second vals qs : Nat → Int} {hds An qi qo Tm Nw Kw ris : Nat → Nat} {ni bc cm cn qc cd : Nat} {x0 : Nat} {y : Int} (hI : MI vals ris cn kinds tgs first second qs hds An qi qo Tm ni bc cm qc) (hx0 : x0 < cm) (hy : b31 y) (hqy : ¬ (0 ≤ y ∧ y < ((cm : Nat) : Int)))  : mI l g yX6_blamed wsX6_blamed ({ frames := 3, cells := 0, slots := 0, locals := 65 }) [.ref (mm), .int (iI ((x0 : Nat) : Int)), .int (iI (y))] (wMM g mm b1 b2 b3 b4 b5 b6 b7 b8 b9 b10 b11 b12 b13 b14 b15 b16 b17 kinds ni cm first second An An Tm Tm bc hds tgs qc qi qo qs cn vals Nw Nw Kw Kw cd ++ ([])) (fun _ : Unit => wMM g mm b1 b2 b3 b4 b5 b6 b7 b8 b9 b10 b11 b12 b13 b14 b15 b16 b17 kinds ni cm first second An An Tm Tm bc hds tgs qc qi qo qs cn vals Nw Nw Kw Kw 1 ++ ([])) (fun _ _ => True) 0 0 := by
  refine mI_of (cc := cX6_blamed) (maxL := 5) (ret := (some .int)) (own := RX6) (by decide) rfl rfl (Nat.le_of_ble_eq_true rfl) ?_
  intro p e s m args below meth c A C hr hl hin
  obtain ⟨hni, hbc1, hbc, hcm1, hcm, hcn1, hnm, hqc, hhd, htg, hf, hs, hfc, hsc, hAn, hTm, hao, hpal, hqb, hqi, htk, hkd⟩ := id hI
  have hy1 := hy.1
  have hy2 := hy.2
  refine v_aload_n C dX6_blamed_0 rfl 0 rfl ?_
  refine v_iload_n C dX6_blamed_1 rfl 1 rfl ?_
  refine v_iload_n C dX6_blamed_2 rfl 2 rfl ?_
  refine v_invVI C (As := [.int (iI ((x0 : Nat) : Int)), .int (iI (y))]) (q0 := 0) (ci := 6) (kX6_isNoPair_b l g (mm := mm) (b1 := b1) (b2 := b2) (b3 := b3) (b4 := b4) (b5 := b5) (b6 := b6) (b7 := b7) (b8 := b8) (b9 := b9) (b10 := b10) (b11 := b11) (b12 := b12) (b13 := b13) (b14 := b14) (b15 := b15) (b16 := b16) (b17 := b17) (kinds := kinds) (tgs := tgs) (first := first) (second := second) (vals := vals) (qs := qs) (hds := hds) (An := An) (qi := qi) (qo := qo) (Tm := Tm) (Nw := Nw) (Kw := Kw) (ni := ni) (bc := bc) (cm := cm) (cn := cn) (qc := qc) (cd := cd) (ris := ris) (i0 := x0) (y := y) (by omega) ⟨by omega, by omega⟩ (by omega) (by omega) (by omega)) (cwV 2 C.2.2.2.2.1 gX6_blamed_X6_isNoPair rfl rfl rfl (by decide +kernel) ⟨Nat.le_of_ble_eq_true rfl, Nat.le_of_ble_eq_true rfl⟩) [wMM g mm b1 b2 b3 b4 b5 b6 b7 b8 b9 b10 b11 b12 b13 b14 b15 b16 b17 kinds ni cm first second An An Tm Tm bc hds tgs qc qi qo qs cn vals Nw Nw Kw Kw cd] [0] [] [] (fun _ => [wMM g mm b1 b2 b3 b4 b5 b6 b7 b8 b9 b10 b11 b12 b13 b14 b15 b16 b17 kinds ni cm first second An An Tm Tm bc hds tgs qc qi qo qs cn vals Nw Nw Kw Kw 1]) (fun _ => wMM g mm b1 b2 b3 b4 b5 b6 b7 b8 b9 b10 b11 b12 b13 b14 b15 b16 b17 kinds ni cm first second An An Tm Tm bc hds tgs qc qi qo qs cn vals Nw Nw Kw Kw 1 ++ ([])) rfl rfl rfl (fun _ => rfl) (fun _ => rfl) (fun _ => rfl) (fun _ => rfl) rfl rfl rfl rfl rfl (Nat.le_of_ble_eq_true rfl) dX6_blamed_3 ⟨by decide, by decide⟩ (fun r_2 _ h_1 => ?_)
  subst h_1
  refine v_ifz_eq C 11 dX6_blamed_6 (by decide) (fun h => nomatch h) (fun _ => ?_)
  refine v_iconst C (z := 0) dX6_blamed_9 ?_
  exact (v_iret C hr hl () (by decide) (by decide) rfl trivial dX6_blamed_10)
theorem inX6_merge_6 : ∀ w ∈ u_ws RX6 TX6 23, w ∈ wsX6_merge := by decide +kernel
theorem lkX6_merge_40 : Cond.fieldLink RX6 40 "MergeAtelierModel" "heads" "[I" ∈ wsX6_merge := by decide +kernel
set_option maxHeartbeats 4000000 in
set_option maxRecDepth 100000 in
theorem kX6_merge_ok (l : Launch) (g : vG) {mm b1 b2 b3 b4 b5 b6 b7 b8 b9 b10 b11 b12 b13 b14 b15 b16 b17 : Nat} {kinds tgs first second vals qs : Nat → Int} {hds An qi qo Tm Nw Kw ris : Nat → Nat} {ni bc cm cn qc cd : Nat} {x0 : Nat} {y0 : Nat} (hI : MI vals ris cn kinds tgs first second qs hds An qi qo Tm ni bc cm qc) (hx0 : x0 < bc) (hy0 : y0 < bc) (hq : ¬ (An (hds (x0))).testBit (hds (y0)) = true) (hcf : cm < 100) : mI l g yX6_merge wsX6_merge ({ frames := 5, cells := 0, slots := 0, locals := 134 }) [.ref (mm), .int (iI ((x0 : Nat) : Int)), .int (iI ((y0 : Nat) : Int))] (wMM g mm b1 b2 b3 b4 b5 b6 b7 b8 b9 b10 b11 b12 b13 b14 b15 b16 b17 kinds ni cm first second An An Tm Tm bc hds tgs qc qi qo qs cn vals Nw Nw Kw Kw cd ++ ([])) (fun _ : Unit => wMM g mm b1 b2 b3 b4 b5 b6 b7 b8 b9 b10 b11 b12 b13 b14 b15 b16 b17 kinds ni (cm + 1) (updZ first (cm) (((hds (x0) : Nat) : Int))) (updZ second (cm) (((hds (y0) : Nat) : Int))) (updN An (cm) ((An (hds (x0)) ||| An (hds (y0))) ||| 2 ^ cm)) (updN An (cm) ((An (hds (x0)) ||| An (hds (y0))) ||| 2 ^ cm)) (rowP (rowP Tm cm ni (fun i => Tm (12 * hds (x0) + i))) cm ni (mgN vals cn qi qo qs An Tm (hds (x0)) (hds (y0)) ni qc Nw)) (rowP (rowP Tm cm ni (fun i => Tm (12 * hds (x0) + i))) cm ni (mgN vals cn qi qo qs An Tm (hds (x0)) (hds (y0)) ni qc Nw)) bc (updN hds (x0) (cm)) tgs qc qi qo qs cn vals (mgN vals cn qi qo qs An Tm (hds (x0)) (hds (y0)) ni qc Nw) (mgN vals cn qi qo qs An Tm (hds (x0)) (hds (y0)) ni qc Nw) Kw Kw 0 ++ ([])) (fun v _ => v = iI ((cm : Nat) : Int)) 0 0 := by
  refine mI_of (cc := cX6_merge) (maxL := 4) (ret := (some .int)) (own := RX6) (by decide) rfl rfl (Nat.le_of_ble_eq_true rfl) ?_
  intro p e s m args below meth c A C hr hl hin
  obtain ⟨hni, hbc1, hbc, hcm1, hcm, hcn1, hnm, hqc, hhd, htg, hf, hs, hfc, hsc, hAn, hTm, hao, hpal, hqb, hqi, htk, hkd⟩ := id hI
  refine v_aload_n C dX6_merge_0 rfl 0 rfl ?_
  refine v_iload_n C dX6_merge_1 rfl 1 rfl ?_
  refine v_iload_n C dX6_merge_2 rfl 2 rfl ?_
  refine v_invVI C (As := [.int (iI ((x0 : Nat) : Int)), .int (iI ((y0 : Nat) : Int))]) (q0 := 0) (ci := 6) (kX6_isNoBranches_in l g (mm := mm) (b1 := b1) (b2 := b2) (b3 := b3) (b4 := b4) (b5 := b5) (b6 := b6) (b7 := b7) (b8 := b8) (b9 := b9) (b10 := b10) (b11 := b11) (b12 := b12) (b13 := b13) (b14 := b14) (b15 := b15) (b16 := b16) (b17 := b17) (kinds := kinds) (tgs := tgs) (first := first) (second := second) (vals := vals) (qs := qs) (hds := hds) (An := An) (qi := qi) (qo := qo) (Tm := Tm) (Nw := Nw) (Kw := Kw) (ni := ni) (bc := bc) (cm := cm) (cn := cn) (qc := qc) (cd := cd) (ris := ris) (i0 := x0) (j0 := y0) (by omega) (by omega) (by omega) (by omega)) (cwV 2 C.2.2.2.2.1 gX6_merge_X6_isNoBranches rfl rfl rfl (by decide +kernel) ⟨Nat.le_of_ble_eq_true rfl, Nat.le_of_ble_eq_true rfl⟩) [wMM g mm b1 b2 b3 b4 b5 b6 b7 b8 b9 b10 b11 b12 b13 b14 b15 b16 b17 kinds ni cm first second An An Tm Tm bc hds tgs qc qi qo qs cn vals Nw Nw Kw Kw cd] [0] [] [] (fun _ => [wMM g mm b1 b2 b3 b4 b5 b6 b7 b8 b9 b10 b11 b12 b13 b14 b15 b16 b17 kinds ni cm first second An An Tm Tm bc hds tgs qc qi qo qs cn vals Nw Nw Kw Kw 0]) (fun _ => wMM g mm b1 b2 b3 b4 b5 b6 b7 b8 b9 b10 b11 b12 b13 b14 b15 b16 b17 kinds ni cm first second An An Tm Tm bc hds tgs qc qi qo qs cn vals Nw Nw Kw Kw 0 ++ ([])) rfl rfl rfl (fun _ => rfl) (fun _ => rfl) (fun _ => rfl) (fun _ => rfl) rfl rfl rfl rfl rfl (Nat.le_of_ble_eq_true rfl) dX6_merge_3 ⟨by decide, by decide⟩ (fun r_2 _ h_1 => ?_)
  subst h_1
  refine v_ifz_ne C 45 dX6_merge_6 (by decide) (fun h => nomatch h) (fun _ => ?_)
  have hhx := hhd x0
  have hhy := hhd y0
  refine v_aload_n C dX6_merge_9 rfl 0 rfl ?_
  refine v_aload_n C dX6_merge_10 rfl 0 rfl ?_
  refine v_aload_n C dX6_merge_11 rfl 0 rfl ?_
  refine v_get C 0 (kf := 10) rfl rfl (by decide) inX6_merge_6 lkX6_merge_40 rfl rfl dX6_merge_12 ?_
  refine v_iload_n C dX6_merge_15 rfl 2 rfl ?_
  refine v_ialdn C 8 (y0) rfl rfl (by omega) (by decide) dX6_merge_16 ?_
  refine v_aload_n C dX6_merge_17 rfl 0 rfl ?_
  refine v_get C 0 (kf := 10) rfl rfl (by decide) inX6_merge_6 lkX6_merge_40 rfl rfl dX6_merge_18 ?_
  refine v_iload_n C dX6_merge_21 rfl 1 rfl ?_
  refine v_ialdn C 8 (x0) rfl rfl (by omega) (by decide) dX6_merge_22 ?_
  refine v_invVI C (As := [.int (iI ((hds (y0) : Nat) : Int)), .int (iI ((hds (x0) : Nat) : Int))]) (q0 := 0) (ci := 6) (kX6_isOld l g (mm := mm) (b1 := b1) (b2 := b2) (b3 := b3) (b4 := b4) (b5 := b5) (b6 := b6) (b7 := b7) (b8 := b8) (b9 := b9) (b10 := b10) (b11 := b11) (b12 := b12) (b13 := b13) (b14 := b14) (b15 := b15) (b16 := b16) (b17 := b17) (kinds := kinds) (tgs := tgs) (first := first) (second := second) (vals := vals) (qs := qs) (hds := hds) (An := An) (qi := qi) (qo := qo) (Tm := Tm) (Nw := Nw) (Kw := Kw) (ni := ni) (bc := bc) (cm := cm) (cn := cn) (qc := qc) (cd := 0) (ris := ris) (c0 := hds (y0)) (d0 := hds (x0)) (by omega) (by omega) hAn) (cwV 2 C.2.2.2.2.1 gX6_merge_X6_isOld rfl rfl rfl (by decide +kernel) ⟨Nat.le_of_ble_eq_true rfl, Nat.le_of_ble_eq_true rfl⟩) [wMM g mm b1 b2 b3 b4 b5 b6 b7 b8 b9 b10 b11 b12 b13 b14 b15 b16 b17 kinds ni cm first second An An Tm Tm bc hds tgs qc qi qo qs cn vals Nw Nw Kw Kw 0] [0] [] [.ref (mm)] (fun _ => [wMM g mm b1 b2 b3 b4 b5 b6 b7 b8 b9 b10 b11 b12 b13 b14 b15 b16 b17 kinds ni cm first second An An Tm Tm bc hds tgs qc qi qo qs cn vals Nw Nw Kw Kw 0]) (fun _ => wMM g mm b1 b2 b3 b4 b5 b6 b7 b8 b9 b10 b11 b12 b13 b14 b15 b16 b17 kinds ni cm first second An An Tm Tm bc hds tgs qc qi qo qs cn vals Nw Nw Kw Kw 0 ++ ([])) rfl rfl rfl (fun _ => rfl) (fun _ => rfl) (fun _ => rfl) (fun _ => rfl) rfl rfl rfl rfl rfl (Nat.le_of_ble_eq_true rfl) dX6_merge_23 ⟨by decide, by decide⟩ (fun r_4 _ h_3 => ?_)
  subst h_3
  refine v_ifz_eq C 33 dX6_merge_26 (by decide) (fun c_5 => ?_) (fun c_5 => ?_)
  ·
    refine v_iconst C (z := 3) dX6_merge_33 ?_
    refine v_aload_n C dX6_merge_34 rfl 0 rfl ?_
    refine v_invVI C (As := []) (q0 := 0) (ci := 6) (kX6_full_n l g (mm := mm) (b1 := b1) (b2 := b2) (b3 := b3) (b4 := b4) (b5 := b5) (b6 := b6) (b7 := b7) (b8 := b8) (b9 := b9) (b10 := b10) (b11 := b11) (b12 := b12) (b13 := b13) (b14 := b14) (b15 := b15) (b16 := b16) (b17 := b17) (kinds := kinds) (tgs := tgs) (first := first) (second := second) (vals := vals) (qs := qs) (hds := hds) (An := An) (qi := qi) (qo := qo) (Tm := Tm) (Nw := Nw) (Kw := Kw) (ni := ni) (bc := bc) (cm := cm) (cn := cn) (qc := qc) (cd := 0) (ris := ris)  (by omega)) (cwV 0 C.2.2.2.2.1 gX6_merge_X6_full rfl rfl rfl (by decide +kernel) ⟨Nat.le_of_ble_eq_true rfl, Nat.le_of_ble_eq_true rfl⟩) [wMM g mm b1 b2 b3 b4 b5 b6 b7 b8 b9 b10 b11 b12 b13 b14 b15 b16 b17 kinds ni cm first second An An Tm Tm bc hds tgs qc qi qo qs cn vals Nw Nw Kw Kw 0] [0] [] [.int (iI (3)), .ref (mm)] (fun _ => [wMM g mm b1 b2 b3 b4 b5 b6 b7 b8 b9 b10 b11 b12 b13 b14 b15 b16 b17 kinds ni cm first second An An Tm Tm bc hds tgs qc qi qo qs cn vals Nw Nw Kw Kw 0]) (fun _ => wMM g mm b1 b2 b3 b4 b5 b6 b7 b8 b9 b10 b11 b12 b13 b14 b15 b16 b17 kinds ni cm first second An An Tm Tm bc hds tgs qc qi qo qs cn vals Nw Nw Kw Kw 0 ++ ([])) rfl rfl rfl (fun _ => rfl) (fun _ => rfl) (fun _ => rfl) (fun _ => rfl) rfl rfl rfl rfl rfl (Nat.le_of_ble_eq_true rfl) dX6_merge_35 ⟨by decide, by decide⟩ (fun r_7 _ h_6 => ?_)
    subst h_6
    refine v_imul C dX6_merge_38 ?_
    refine v_st (st' := [.int (iI (0)), .ref (mm)]) rfl ?_
    refine v_invVI C (As := [.int (iI (0))]) (q0 := 0) (ci := 6) (kX6_fails_z l g (mm := mm) (b1 := b1) (b2 := b2) (b3 := b3) (b4 := b4) (b5 := b5) (b6 := b6) (b7 := b7) (b8 := b8) (b9 := b9) (b10 := b10) (b11 := b11) (b12 := b12) (b13 := b13) (b14 := b14) (b15 := b15) (b16 := b16) (b17 := b17) (kinds := kinds) (tgs := tgs) (first := first) (second := second) (vals := vals) (qs := qs) (hds := hds) (An := An) (qi := qi) (qo := qo) (Tm := Tm) (Nw := Nw) (Kw := Kw) (ni := ni) (bc := bc) (cm := cm) (cn := cn) (qc := qc) (cd := 0) (ris := ris)  ) (cwV 1 C.2.2.2.2.1 gX6_merge_X6_fails rfl rfl rfl (by decide +kernel) ⟨Nat.le_of_ble_eq_true rfl, Nat.le_of_ble_eq_true rfl⟩) [wMM g mm b1 b2 b3 b4 b5 b6 b7 b8 b9 b10 b11 b12 b13 b14 b15 b16 b17 kinds ni cm first second An An Tm Tm bc hds tgs qc qi qo qs cn vals Nw Nw Kw Kw 0] [0] [] [] (fun _ => [wMM g mm b1 b2 b3 b4 b5 b6 b7 b8 b9 b10 b11 b12 b13 b14 b15 b16 b17 kinds ni cm first second An An Tm Tm bc hds tgs qc qi qo qs cn vals Nw Nw Kw Kw 0]) (fun _ => wMM g mm b1 b2 b3 b4 b5 b6 b7 b8 b9 b10 b11 b12 b13 b14 b15 b16 b17 kinds ni cm first second An An Tm Tm bc hds tgs qc qi qo qs cn vals Nw Nw Kw Kw 0 ++ ([])) rfl rfl rfl (fun _ => rfl) (fun _ => rfl) (fun _ => rfl) (fun _ => rfl) rfl rfl rfl rfl rfl (Nat.le_of_ble_eq_true rfl) dX6_merge_39 ⟨by decide, by decide⟩ (fun r_9 _ h_8 => ?_)
    subst h_8
    refine v_ifz_eq C 47 dX6_merge_42 (by decide) (fun _ => ?_) (fun h => nomatch h) 
    refine v_aload_n C dX6_merge_47 rfl 0 rfl ?_
    refine v_aload_n C dX6_merge_48 rfl 0 rfl ?_
    refine v_get C 0 (kf := 10) rfl rfl (by decide) inX6_merge_6 lkX6_merge_40 rfl rfl dX6_merge_49 ?_
    refine v_iload_n C dX6_merge_52 rfl 1 rfl ?_
    refine v_ialdn C 8 (x0) rfl rfl (by omega) (by decide) dX6_merge_53 ?_
    refine v_aload_n C dX6_merge_54 rfl 0 rfl ?_
    refine v_get C 0 (kf := 10) rfl rfl (by decide) inX6_merge_6 lkX6_merge_40 rfl rfl dX6_merge_55 ?_
    refine v_iload_n C dX6_merge_58 rfl 2 rfl ?_
    refine v_ialdn C 8 (y0) rfl rfl (by omega) (by decide) dX6_merge_59 ?_
    refine v_invVV C (As := [.int (iI ((hds (x0) : Nat) : Int)), .int (iI ((hds (y0) : Nat) : Int))]) (q0 := 0) (ci := 6) (kX6_merges l g (mm := mm) (b1 := b1) (b2 := b2) (b3 := b3) (b4 := b4) (b5 := b5) (b6 := b6) (b7 := b7) (b8 := b8) (b9 := b9) (b10 := b10) (b11 := b11) (b12 := b12) (b13 := b13) (b14 := b14) (b15 := b15) (b16 := b16) (b17 := b17) (kinds := kinds) (tgs := tgs) (first := first) (second := second) (vals := vals) (qs := qs) (hds := hds) (An := An) (qi := qi) (qo := qo) (Tm := Tm) (Nw := Nw) (Kw := Kw) (ni := ni) (bc := bc) (cm := cm) (cn := cn) (qc := qc) (cd := 0) (ris := ris) (f0 := hds (x0)) (s0 := hds (y0)) hI (by omega) (by omega)) (cwV 2 C.2.2.2.2.1 gX6_merge_X6_merges rfl rfl rfl (by decide +kernel) ⟨Nat.le_of_ble_eq_true rfl, Nat.le_of_ble_eq_true rfl⟩) [wMM g mm b1 b2 b3 b4 b5 b6 b7 b8 b9 b10 b11 b12 b13 b14 b15 b16 b17 kinds ni cm first second An An Tm Tm bc hds tgs qc qi qo qs cn vals Nw Nw Kw Kw 0] [0] [] [] (fun _ => [wMM g mm b1 b2 b3 b4 b5 b6 b7 b8 b9 b10 b11 b12 b13 b14 b15 b16 b17 kinds ni cm first second An An Tm Tm bc hds tgs qc qi qo qs cn vals (mgN vals cn qi qo qs An Tm (hds (x0)) (hds (y0)) ni qc Nw) (mgN vals cn qi qo qs An Tm (hds (x0)) (hds (y0)) ni qc Nw) Kw Kw 0]) (fun _ => wMM g mm b1 b2 b3 b4 b5 b6 b7 b8 b9 b10 b11 b12 b13 b14 b15 b16 b17 kinds ni cm first second An An Tm Tm bc hds tgs qc qi qo qs cn vals (mgN vals cn qi qo qs An Tm (hds (x0)) (hds (y0)) ni qc Nw) (mgN vals cn qi qo qs An Tm (hds (x0)) (hds (y0)) ni qc Nw) Kw Kw 0 ++ ([])) rfl rfl rfl (fun _ => rfl) (fun _ => rfl) (fun _ => rfl) (fun _ => rfl) rfl rfl rfl rfl rfl (Nat.le_of_ble_eq_true rfl) dX6_merge_60 ⟨by decide, by decide⟩ (fun _ h_10 => ?_)
    refine v_aload_n C dX6_merge_63 rfl 0 rfl ?_
    refine v_iload_n C dX6_merge_64 rfl 1 rfl ?_
    refine v_aload_n C dX6_merge_65 rfl 0 rfl ?_
    refine v_get C 0 (kf := 10) rfl rfl (by decide) inX6_merge_6 lkX6_merge_40 rfl rfl dX6_merge_66 ?_
    refine v_iload_n C dX6_merge_69 rfl 2 rfl ?_
    refine v_ialdn C 8 (y0) rfl rfl (by omega) (by decide) dX6_merge_70 ?_
    refine v_invVI C (As := [.int (iI ((x0 : Nat) : Int)), .int (iI ((hds (y0) : Nat) : Int))]) (q0 := 0) (ci := 6) (kX6_makes_s l g (mm := mm) (b1 := b1) (b2 := b2) (b3 := b3) (b4 := b4) (b5 := b5) (b6 := b6) (b7 := b7) (b8 := b8) (b9 := b9) (b10 := b10) (b11 := b11) (b12 := b12) (b13 := b13) (b14 := b14) (b15 := b15) (b16 := b16) (b17 := b17) (kinds := kinds) (tgs := tgs) (first := first) (second := second) (vals := vals) (qs := qs) (hds := hds) (An := An) (qi := qi) (qo := qo) (Tm := Tm) (Nw := mgN vals cn qi qo qs An Tm (hds (x0)) (hds (y0)) ni qc Nw) (Kw := Kw) (ni := ni) (bc := bc) (cm := cm) (cn := cn) (qc := qc) (cd := 0) (ris := ris) (b0 := x0) (k0 := hds (y0)) (by omega) (by omega) (by omega) (by omega) (by omega)) (cwV 2 C.2.2.2.2.1 gX6_merge_X6_makes rfl rfl rfl (by decide +kernel) ⟨Nat.le_of_ble_eq_true rfl, Nat.le_of_ble_eq_true rfl⟩) [wMM g mm b1 b2 b3 b4 b5 b6 b7 b8 b9 b10 b11 b12 b13 b14 b15 b16 b17 kinds ni cm first second An An Tm Tm bc hds tgs qc qi qo qs cn vals (mgN vals cn qi qo qs An Tm (hds (x0)) (hds (y0)) ni qc Nw) (mgN vals cn qi qo qs An Tm (hds (x0)) (hds (y0)) ni qc Nw) Kw Kw 0] [0] [] [] (fun _ => [wMM g mm b1 b2 b3 b4 b5 b6 b7 b8 b9 b10 b11 b12 b13 b14 b15 b16 b17 kinds ni (cm + 1) (updZ first (cm) (((hds (x0) : Nat) : Int))) (updZ second (cm) (((hds (y0) : Nat) : Int))) (updN An (cm) ((An (hds (x0)) ||| An (hds (y0))) ||| 2 ^ cm)) (updN An (cm) ((An (hds (x0)) ||| An (hds (y0))) ||| 2 ^ cm)) (rowP Tm cm ni (fun i => Tm (12 * hds (x0) + i))) (rowP Tm cm ni (fun i => Tm (12 * hds (x0) + i))) bc (updN hds (x0) (cm)) tgs qc qi qo qs cn vals (mgN vals cn qi qo qs An Tm (hds (x0)) (hds (y0)) ni qc Nw) (mgN vals cn qi qo qs An Tm (hds (x0)) (hds (y0)) ni qc Nw) Kw Kw 0]) (fun _ => wMM g mm b1 b2 b3 b4 b5 b6 b7 b8 b9 b10 b11 b12 b13 b14 b15 b16 b17 kinds ni (cm + 1) (updZ first (cm) (((hds (x0) : Nat) : Int))) (updZ second (cm) (((hds (y0) : Nat) : Int))) (updN An (cm) ((An (hds (x0)) ||| An (hds (y0))) ||| 2 ^ cm)) (updN An (cm) ((An (hds (x0)) ||| An (hds (y0))) ||| 2 ^ cm)) (rowP Tm cm ni (fun i => Tm (12 * hds (x0) + i))) (rowP Tm cm ni (fun i => Tm (12 * hds (x0) + i))) bc (updN hds (x0) (cm)) tgs qc qi qo qs cn vals (mgN vals cn qi qo qs An Tm (hds (x0)) (hds (y0)) ni qc Nw) (mgN vals cn qi qo qs An Tm (hds (x0)) (hds (y0)) ni qc Nw) Kw Kw 0 ++ ([])) rfl rfl rfl (fun _ => rfl) (fun _ => rfl) (fun _ => rfl) (fun _ => rfl) rfl rfl rfl rfl rfl (Nat.le_of_ble_eq_true rfl) dX6_merge_71 ⟨by decide, by decide⟩ (fun r_13 _ h_12 => ?_)
    subst h_12
    refine v_istore_n C [(3, .int (iI ((cm : Nat) : Int))), (0, .ref (mm)), (1, .int (iI ((x0 : Nat) : Int))), (2, .int (iI ((y0 : Nat) : Int)))] dX6_merge_74 rfl (by decide) rfl ?_
    refine v_aload_n C dX6_merge_75 rfl 1 rfl ?_
    refine v_iload_n C dX6_merge_76 rfl 0 rfl ?_
    refine v_invVV C (As := [.int (iI ((cm : Nat) : Int))]) (q0 := 0) (ci := 6) (kX6_takes l g (mm := mm) (b1 := b1) (b2 := b2) (b3 := b3) (b4 := b4) (b5 := b5) (b6 := b6) (b7 := b7) (b8 := b8) (b9 := b9) (b10 := b10) (b11 := b11) (b12 := b12) (b13 := b13) (b14 := b14) (b15 := b15) (b16 := b16) (b17 := b17) (kinds := kinds) (tgs := tgs) (first := updZ first (cm) (((hds (x0) : Nat) : Int))) (second := updZ second (cm) (((hds (y0) : Nat) : Int))) (vals := vals) (qs := qs) (hds := updN hds (x0) (cm)) (An := updN An (cm) ((An (hds (x0)) ||| An (hds (y0))) ||| 2 ^ cm)) (qi := qi) (qo := qo) (Tm := rowP Tm cm ni (fun i => Tm (12 * hds (x0) + i))) (Nw := mgN vals cn qi qo qs An Tm (hds (x0)) (hds (y0)) ni qc Nw) (Kw := Kw) (ni := ni) (bc := bc) (cm := cm + 1) (cn := cn) (qc := qc) (cd := 0) (ris := ris) (c0 := cm) (by omega) (by omega)) (cwV 1 C.2.2.2.2.1 gX6_merge_X6_takes rfl rfl rfl (by decide +kernel) ⟨Nat.le_of_ble_eq_true rfl, Nat.le_of_ble_eq_true rfl⟩) [wMM g mm b1 b2 b3 b4 b5 b6 b7 b8 b9 b10 b11 b12 b13 b14 b15 b16 b17 kinds ni (cm + 1) (updZ first (cm) (((hds (x0) : Nat) : Int))) (updZ second (cm) (((hds (y0) : Nat) : Int))) (updN An (cm) ((An (hds (x0)) ||| An (hds (y0))) ||| 2 ^ cm)) (updN An (cm) ((An (hds (x0)) ||| An (hds (y0))) ||| 2 ^ cm)) (rowP Tm cm ni (fun i => Tm (12 * hds (x0) + i))) (rowP Tm cm ni (fun i => Tm (12 * hds (x0) + i))) bc (updN hds (x0) (cm)) tgs qc qi qo qs cn vals (mgN vals cn qi qo qs An Tm (hds (x0)) (hds (y0)) ni qc Nw) (mgN vals cn qi qo qs An Tm (hds (x0)) (hds (y0)) ni qc Nw) Kw Kw 0] [0] [] [] (fun _ => [wMM g mm b1 b2 b3 b4 b5 b6 b7 b8 b9 b10 b11 b12 b13 b14 b15 b16 b17 kinds ni (cm + 1) (updZ first (cm) (((hds (x0) : Nat) : Int))) (updZ second (cm) (((hds (y0) : Nat) : Int))) (updN An (cm) ((An (hds (x0)) ||| An (hds (y0))) ||| 2 ^ cm)) (updN An (cm) ((An (hds (x0)) ||| An (hds (y0))) ||| 2 ^ cm)) (rowP (rowP Tm cm ni (fun i => Tm (12 * hds (x0) + i))) cm ni (mgN vals cn qi qo qs An Tm (hds (x0)) (hds (y0)) ni qc Nw)) (rowP (rowP Tm cm ni (fun i => Tm (12 * hds (x0) + i))) cm ni (mgN vals cn qi qo qs An Tm (hds (x0)) (hds (y0)) ni qc Nw)) bc (updN hds (x0) (cm)) tgs qc qi qo qs cn vals (mgN vals cn qi qo qs An Tm (hds (x0)) (hds (y0)) ni qc Nw) (mgN vals cn qi qo qs An Tm (hds (x0)) (hds (y0)) ni qc Nw) Kw Kw 0]) (fun _ => wMM g mm b1 b2 b3 b4 b5 b6 b7 b8 b9 b10 b11 b12 b13 b14 b15 b16 b17 kinds ni (cm + 1) (updZ first (cm) (((hds (x0) : Nat) : Int))) (updZ second (cm) (((hds (y0) : Nat) : Int))) (updN An (cm) ((An (hds (x0)) ||| An (hds (y0))) ||| 2 ^ cm)) (updN An (cm) ((An (hds (x0)) ||| An (hds (y0))) ||| 2 ^ cm)) (rowP (rowP Tm cm ni (fun i => Tm (12 * hds (x0) + i))) cm ni (mgN vals cn qi qo qs An Tm (hds (x0)) (hds (y0)) ni qc Nw)) (rowP (rowP Tm cm ni (fun i => Tm (12 * hds (x0) + i))) cm ni (mgN vals cn qi qo qs An Tm (hds (x0)) (hds (y0)) ni qc Nw)) bc (updN hds (x0) (cm)) tgs qc qi qo qs cn vals (mgN vals cn qi qo qs An Tm (hds (x0)) (hds (y0)) ni qc Nw) (mgN vals cn qi qo qs An Tm (hds (x0)) (hds (y0)) ni qc Nw) Kw Kw 0 ++ ([])) rfl rfl rfl (fun _ => rfl) (fun _ => rfl) (fun _ => rfl) (fun _ => rfl) rfl rfl rfl rfl rfl (Nat.le_of_ble_eq_true rfl) dX6_merge_77 ⟨by decide, by decide⟩ (fun _ h_14 => ?_)
    refine v_iload_n C dX6_merge_80 rfl 0 rfl ?_
    exact (v_iret C hr hl () (by decide) (by decide) rfl rfl dX6_merge_81)
  ·
    exact absurd c_5 hq
set_option maxHeartbeats 4000000 in
set_option maxRecDepth 100000 in
theorem kX6_merge_a (l : Launch) (g : vG) {mm b1 b2 b3 b4 b5 b6 b7 b8 b9 b10 b11 b12 b13 b14 b15 b16 b17 : Nat} {kinds tgs first second vals qs : Nat → Int} {hds An qi qo Tm Nw Kw ris : Nat → Nat} {ni bc cm cn qc cd : Nat} {x : Int} {y : Int} (hI : MI vals ris cn kinds tgs first second qs hds An qi qo Tm ni bc cm qc) (hx : b31 x) (hqx : ¬ (0 ≤ x ∧ x < ((bc : Nat) : Int))) (hy : b31 y)  : mI l g yX6_merge wsX6_merge ({ frames := 3, cells := 0, slots := 0, locals := 65 }) [.ref (mm), .int (iI (x)), .int (iI (y))] (wMM g mm b1 b2 b3 b4 b5 b6 b7 b8 b9 b10 b11 b12 b13 b14 b15 b16 b17 kinds ni cm first second An An Tm Tm bc hds tgs qc qi qo qs cn vals Nw Nw Kw Kw cd ++ ([])) (fun _ : Unit => wMM g mm b1 b2 b3 b4 b5 b6 b7 b8 b9 b10 b11 b12 b13 b14 b15 b16 b17 kinds ni cm first second An An Tm Tm bc hds tgs qc qi qo qs cn vals Nw Nw Kw Kw 1 ++ ([])) (fun _ _ => True) 0 0 := by
  refine mI_of (cc := cX6_merge) (maxL := 4) (ret := (some .int)) (own := RX6) (by decide) rfl rfl (Nat.le_of_ble_eq_true rfl) ?_
  intro p e s m args below meth c A C hr hl hin
  obtain ⟨hni, hbc1, hbc, hcm1, hcm, hcn1, hnm, hqc, hhd, htg, hf, hs, hfc, hsc, hAn, hTm, hao, hpal, hqb, hqi, htk, hkd⟩ := id hI
  have hx1 := hx.1
  have hx2 := hx.2
  have hy1 := hy.1
  have hy2 := hy.2
  refine v_aload_n C dX6_merge_0 rfl 0 rfl ?_
  refine v_iload_n C dX6_merge_1 rfl 1 rfl ?_
  refine v_iload_n C dX6_merge_2 rfl 2 rfl ?_
  refine v_invVI C (As := [.int (iI (x)), .int (iI (y))]) (q0 := 0) (ci := 6) (kX6_isNoBranches_a l g (mm := mm) (b1 := b1) (b2 := b2) (b3 := b3) (b4 := b4) (b5 := b5) (b6 := b6) (b7 := b7) (b8 := b8) (b9 := b9) (b10 := b10) (b11 := b11) (b12 := b12) (b13 := b13) (b14 := b14) (b15 := b15) (b16 := b16) (b17 := b17) (kinds := kinds) (tgs := tgs) (first := first) (second := second) (vals := vals) (qs := qs) (hds := hds) (An := An) (qi := qi) (qo := qo) (Tm := Tm) (Nw := Nw) (Kw := Kw) (ni := ni) (bc := bc) (cm := cm) (cn := cn) (qc := qc) (cd := cd) (ris := ris) (x := x) (y := y) ⟨by omega, by omega⟩ (by omega) (by omega) (by omega)) (cwV 2 C.2.2.2.2.1 gX6_merge_X6_isNoBranches rfl rfl rfl (by decide +kernel) ⟨Nat.le_of_ble_eq_true rfl, Nat.le_of_ble_eq_true rfl⟩) [wMM g mm b1 b2 b3 b4 b5 b6 b7 b8 b9 b10 b11 b12 b13 b14 b15 b16 b17 kinds ni cm first second An An Tm Tm bc hds tgs qc qi qo qs cn vals Nw Nw Kw Kw cd] [0] [] [] (fun _ => [wMM g mm b1 b2 b3 b4 b5 b6 b7 b8 b9 b10 b11 b12 b13 b14 b15 b16 b17 kinds ni cm first second An An Tm Tm bc hds tgs qc qi qo qs cn vals Nw Nw Kw Kw 1]) (fun _ => wMM g mm b1 b2 b3 b4 b5 b6 b7 b8 b9 b10 b11 b12 b13 b14 b15 b16 b17 kinds ni cm first second An An Tm Tm bc hds tgs qc qi qo qs cn vals Nw Nw Kw Kw 1 ++ ([])) rfl rfl rfl (fun _ => rfl) (fun _ => rfl) (fun _ => rfl) (fun _ => rfl) rfl rfl rfl rfl rfl (Nat.le_of_ble_eq_true rfl) dX6_merge_3 ⟨by decide, by decide⟩ (fun r_2 _ h_1 => ?_)
  subst h_1
  refine v_ifz_ne C 45 dX6_merge_6 (by decide) (fun _ => ?_) (fun h => nomatch h) 
  refine v_iconst C (z := 0) dX6_merge_45 ?_
  exact (v_iret C hr hl () (by decide) (by decide) rfl trivial dX6_merge_46)
set_option maxHeartbeats 4000000 in
set_option maxRecDepth 100000 in
theorem kX6_merge_b (l : Launch) (g : vG) {mm b1 b2 b3 b4 b5 b6 b7 b8 b9 b10 b11 b12 b13 b14 b15 b16 b17 : Nat} {kinds tgs first second vals qs : Nat → Int} {hds An qi qo Tm Nw Kw ris : Nat → Nat} {ni bc cm cn qc cd : Nat} {x0 : Nat} {y : Int} (hI : MI vals ris cn kinds tgs first second qs hds An qi qo Tm ni bc cm qc) (hx0 : x0 < bc) (hy : b31 y) (hqy : ¬ (0 ≤ y ∧ y < ((bc : Nat) : Int)))  : mI l g yX6_merge wsX6_merge ({ frames := 3, cells := 0, slots := 0, locals := 65 }) [.ref (mm), .int (iI ((x0 : Nat) : Int)), .int (iI (y))] (wMM g mm b1 b2 b3 b4 b5 b6 b7 b8 b9 b10 b11 b12 b13 b14 b15 b16 b17 kinds ni cm first second An An Tm Tm bc hds tgs qc qi qo qs cn vals Nw Nw Kw Kw cd ++ ([])) (fun _ : Unit => wMM g mm b1 b2 b3 b4 b5 b6 b7 b8 b9 b10 b11 b12 b13 b14 b15 b16 b17 kinds ni cm first second An An Tm Tm bc hds tgs qc qi qo qs cn vals Nw Nw Kw Kw 1 ++ ([])) (fun _ _ => True) 0 0 := by
  refine mI_of (cc := cX6_merge) (maxL := 4) (ret := (some .int)) (own := RX6) (by decide) rfl rfl (Nat.le_of_ble_eq_true rfl) ?_
  intro p e s m args below meth c A C hr hl hin
  obtain ⟨hni, hbc1, hbc, hcm1, hcm, hcn1, hnm, hqc, hhd, htg, hf, hs, hfc, hsc, hAn, hTm, hao, hpal, hqb, hqi, htk, hkd⟩ := id hI
  have hy1 := hy.1
  have hy2 := hy.2
  refine v_aload_n C dX6_merge_0 rfl 0 rfl ?_
  refine v_iload_n C dX6_merge_1 rfl 1 rfl ?_
  refine v_iload_n C dX6_merge_2 rfl 2 rfl ?_
  refine v_invVI C (As := [.int (iI ((x0 : Nat) : Int)), .int (iI (y))]) (q0 := 0) (ci := 6) (kX6_isNoBranches_b l g (mm := mm) (b1 := b1) (b2 := b2) (b3 := b3) (b4 := b4) (b5 := b5) (b6 := b6) (b7 := b7) (b8 := b8) (b9 := b9) (b10 := b10) (b11 := b11) (b12 := b12) (b13 := b13) (b14 := b14) (b15 := b15) (b16 := b16) (b17 := b17) (kinds := kinds) (tgs := tgs) (first := first) (second := second) (vals := vals) (qs := qs) (hds := hds) (An := An) (qi := qi) (qo := qo) (Tm := Tm) (Nw := Nw) (Kw := Kw) (ni := ni) (bc := bc) (cm := cm) (cn := cn) (qc := qc) (cd := cd) (ris := ris) (i0 := x0) (y := y) (by omega) ⟨by omega, by omega⟩ (by omega) (by omega) (by omega)) (cwV 2 C.2.2.2.2.1 gX6_merge_X6_isNoBranches rfl rfl rfl (by decide +kernel) ⟨Nat.le_of_ble_eq_true rfl, Nat.le_of_ble_eq_true rfl⟩) [wMM g mm b1 b2 b3 b4 b5 b6 b7 b8 b9 b10 b11 b12 b13 b14 b15 b16 b17 kinds ni cm first second An An Tm Tm bc hds tgs qc qi qo qs cn vals Nw Nw Kw Kw cd] [0] [] [] (fun _ => [wMM g mm b1 b2 b3 b4 b5 b6 b7 b8 b9 b10 b11 b12 b13 b14 b15 b16 b17 kinds ni cm first second An An Tm Tm bc hds tgs qc qi qo qs cn vals Nw Nw Kw Kw 1]) (fun _ => wMM g mm b1 b2 b3 b4 b5 b6 b7 b8 b9 b10 b11 b12 b13 b14 b15 b16 b17 kinds ni cm first second An An Tm Tm bc hds tgs qc qi qo qs cn vals Nw Nw Kw Kw 1 ++ ([])) rfl rfl rfl (fun _ => rfl) (fun _ => rfl) (fun _ => rfl) (fun _ => rfl) rfl rfl rfl rfl rfl (Nat.le_of_ble_eq_true rfl) dX6_merge_3 ⟨by decide, by decide⟩ (fun r_2 _ h_1 => ?_)
  subst h_1
  refine v_ifz_ne C 45 dX6_merge_6 (by decide) (fun _ => ?_) (fun h => nomatch h) 
  refine v_iconst C (z := 0) dX6_merge_45 ?_
  exact (v_iret C hr hl () (by decide) (by decide) rfl trivial dX6_merge_46)
set_option maxHeartbeats 4000000 in
set_option maxRecDepth 100000 in
theorem kX6_merge_2 (l : Launch) (g : vG) {mm b1 b2 b3 b4 b5 b6 b7 b8 b9 b10 b11 b12 b13 b14 b15 b16 b17 : Nat} {kinds tgs first second vals qs : Nat → Int} {hds An qi qo Tm Nw Kw ris : Nat → Nat} {ni bc cm cn qc cd : Nat} {x0 : Nat} {y0 : Nat} (hI : MI vals ris cn kinds tgs first second qs hds An qi qo Tm ni bc cm qc) (hx0 : x0 < bc) (hy0 : y0 < bc) (hq : (An (hds (x0))).testBit (hds (y0)) = true) : mI l g yX6_merge wsX6_merge ({ frames := 3, cells := 0, slots := 0, locals := 65 }) [.ref (mm), .int (iI ((x0 : Nat) : Int)), .int (iI ((y0 : Nat) : Int))] (wMM g mm b1 b2 b3 b4 b5 b6 b7 b8 b9 b10 b11 b12 b13 b14 b15 b16 b17 kinds ni cm first second An An Tm Tm bc hds tgs qc qi qo qs cn vals Nw Nw Kw Kw cd ++ ([])) (fun _ : Unit => wMM g mm b1 b2 b3 b4 b5 b6 b7 b8 b9 b10 b11 b12 b13 b14 b15 b16 b17 kinds ni cm first second An An Tm Tm bc hds tgs qc qi qo qs cn vals Nw Nw Kw Kw 2 ++ ([])) (fun _ _ => True) 0 0 := by
  refine mI_of (cc := cX6_merge) (maxL := 4) (ret := (some .int)) (own := RX6) (by decide) rfl rfl (Nat.le_of_ble_eq_true rfl) ?_
  intro p e s m args below meth c A C hr hl hin
  obtain ⟨hni, hbc1, hbc, hcm1, hcm, hcn1, hnm, hqc, hhd, htg, hf, hs, hfc, hsc, hAn, hTm, hao, hpal, hqb, hqi, htk, hkd⟩ := id hI
  refine v_aload_n C dX6_merge_0 rfl 0 rfl ?_
  refine v_iload_n C dX6_merge_1 rfl 1 rfl ?_
  refine v_iload_n C dX6_merge_2 rfl 2 rfl ?_
  refine v_invVI C (As := [.int (iI ((x0 : Nat) : Int)), .int (iI ((y0 : Nat) : Int))]) (q0 := 0) (ci := 6) (kX6_isNoBranches_in l g (mm := mm) (b1 := b1) (b2 := b2) (b3 := b3) (b4 := b4) (b5 := b5) (b6 := b6) (b7 := b7) (b8 := b8) (b9 := b9) (b10 := b10) (b11 := b11) (b12 := b12) (b13 := b13) (b14 := b14) (b15 := b15) (b16 := b16) (b17 := b17) (kinds := kinds) (tgs := tgs) (first := first) (second := second) (vals := vals) (qs := qs) (hds := hds) (An := An) (qi := qi) (qo := qo) (Tm := Tm) (Nw := Nw) (Kw := Kw) (ni := ni) (bc := bc) (cm := cm) (cn := cn) (qc := qc) (cd := cd) (ris := ris) (i0 := x0) (j0 := y0) (by omega) (by omega) (by omega) (by omega)) (cwV 2 C.2.2.2.2.1 gX6_merge_X6_isNoBranches rfl rfl rfl (by decide +kernel) ⟨Nat.le_of_ble_eq_true rfl, Nat.le_of_ble_eq_true rfl⟩) [wMM g mm b1 b2 b3 b4 b5 b6 b7 b8 b9 b10 b11 b12 b13 b14 b15 b16 b17 kinds ni cm first second An An Tm Tm bc hds tgs qc qi qo qs cn vals Nw Nw Kw Kw cd] [0] [] [] (fun _ => [wMM g mm b1 b2 b3 b4 b5 b6 b7 b8 b9 b10 b11 b12 b13 b14 b15 b16 b17 kinds ni cm first second An An Tm Tm bc hds tgs qc qi qo qs cn vals Nw Nw Kw Kw 0]) (fun _ => wMM g mm b1 b2 b3 b4 b5 b6 b7 b8 b9 b10 b11 b12 b13 b14 b15 b16 b17 kinds ni cm first second An An Tm Tm bc hds tgs qc qi qo qs cn vals Nw Nw Kw Kw 0 ++ ([])) rfl rfl rfl (fun _ => rfl) (fun _ => rfl) (fun _ => rfl) (fun _ => rfl) rfl rfl rfl rfl rfl (Nat.le_of_ble_eq_true rfl) dX6_merge_3 ⟨by decide, by decide⟩ (fun r_2 _ h_1 => ?_)
  subst h_1
  refine v_ifz_ne C 45 dX6_merge_6 (by decide) (fun h => nomatch h) (fun _ => ?_)
  have hhx := hhd x0
  have hhy := hhd y0
  refine v_aload_n C dX6_merge_9 rfl 0 rfl ?_
  refine v_aload_n C dX6_merge_10 rfl 0 rfl ?_
  refine v_aload_n C dX6_merge_11 rfl 0 rfl ?_
  refine v_get C 0 (kf := 10) rfl rfl (by decide) inX6_merge_6 lkX6_merge_40 rfl rfl dX6_merge_12 ?_
  refine v_iload_n C dX6_merge_15 rfl 2 rfl ?_
  refine v_ialdn C 8 (y0) rfl rfl (by omega) (by decide) dX6_merge_16 ?_
  refine v_aload_n C dX6_merge_17 rfl 0 rfl ?_
  refine v_get C 0 (kf := 10) rfl rfl (by decide) inX6_merge_6 lkX6_merge_40 rfl rfl dX6_merge_18 ?_
  refine v_iload_n C dX6_merge_21 rfl 1 rfl ?_
  refine v_ialdn C 8 (x0) rfl rfl (by omega) (by decide) dX6_merge_22 ?_
  refine v_invVI C (As := [.int (iI ((hds (y0) : Nat) : Int)), .int (iI ((hds (x0) : Nat) : Int))]) (q0 := 0) (ci := 6) (kX6_isOld l g (mm := mm) (b1 := b1) (b2 := b2) (b3 := b3) (b4 := b4) (b5 := b5) (b6 := b6) (b7 := b7) (b8 := b8) (b9 := b9) (b10 := b10) (b11 := b11) (b12 := b12) (b13 := b13) (b14 := b14) (b15 := b15) (b16 := b16) (b17 := b17) (kinds := kinds) (tgs := tgs) (first := first) (second := second) (vals := vals) (qs := qs) (hds := hds) (An := An) (qi := qi) (qo := qo) (Tm := Tm) (Nw := Nw) (Kw := Kw) (ni := ni) (bc := bc) (cm := cm) (cn := cn) (qc := qc) (cd := 0) (ris := ris) (c0 := hds (y0)) (d0 := hds (x0)) (by omega) (by omega) hAn) (cwV 2 C.2.2.2.2.1 gX6_merge_X6_isOld rfl rfl rfl (by decide +kernel) ⟨Nat.le_of_ble_eq_true rfl, Nat.le_of_ble_eq_true rfl⟩) [wMM g mm b1 b2 b3 b4 b5 b6 b7 b8 b9 b10 b11 b12 b13 b14 b15 b16 b17 kinds ni cm first second An An Tm Tm bc hds tgs qc qi qo qs cn vals Nw Nw Kw Kw 0] [0] [] [.ref (mm)] (fun _ => [wMM g mm b1 b2 b3 b4 b5 b6 b7 b8 b9 b10 b11 b12 b13 b14 b15 b16 b17 kinds ni cm first second An An Tm Tm bc hds tgs qc qi qo qs cn vals Nw Nw Kw Kw 0]) (fun _ => wMM g mm b1 b2 b3 b4 b5 b6 b7 b8 b9 b10 b11 b12 b13 b14 b15 b16 b17 kinds ni cm first second An An Tm Tm bc hds tgs qc qi qo qs cn vals Nw Nw Kw Kw 0 ++ ([])) rfl rfl rfl (fun _ => rfl) (fun _ => rfl) (fun _ => rfl) (fun _ => rfl) rfl rfl rfl rfl rfl (Nat.le_of_ble_eq_true rfl) dX6_merge_23 ⟨by decide, by decide⟩ (fun r_4 _ h_3 => ?_)
  subst h_3
  refine v_ifz_eq C 33 dX6_merge_26 (by decide) (fun c_5 => ?_) (fun c_5 => ?_)
  ·
    exact absurd (hq.symm.trans c_5) (by decide)
  ·
    refine v_iconst C (z := 2) dX6_merge_29 ?_
    refine v_goto C 39 dX6_merge_30 (by decide) ?_
    refine v_invVI C (As := [.int (iI (2))]) (q0 := 0) (ci := 6) (kX6_fails_p l g (mm := mm) (b1 := b1) (b2 := b2) (b3 := b3) (b4 := b4) (b5 := b5) (b6 := b6) (b7 := b7) (b8 := b8) (b9 := b9) (b10 := b10) (b11 := b11) (b12 := b12) (b13 := b13) (b14 := b14) (b15 := b15) (b16 := b16) (b17 := b17) (kinds := kinds) (tgs := tgs) (first := first) (second := second) (vals := vals) (qs := qs) (hds := hds) (An := An) (qi := qi) (qo := qo) (Tm := Tm) (Nw := Nw) (Kw := Kw) (ni := ni) (bc := bc) (cm := cm) (cn := cn) (qc := qc) (cd := 0) (ris := ris) (q := 2) (by decide)) (cwV 1 C.2.2.2.2.1 gX6_merge_X6_fails rfl rfl rfl (by decide +kernel) ⟨Nat.le_of_ble_eq_true rfl, Nat.le_of_ble_eq_true rfl⟩) [wMM g mm b1 b2 b3 b4 b5 b6 b7 b8 b9 b10 b11 b12 b13 b14 b15 b16 b17 kinds ni cm first second An An Tm Tm bc hds tgs qc qi qo qs cn vals Nw Nw Kw Kw 0] [0] [] [] (fun _ => [wMM g mm b1 b2 b3 b4 b5 b6 b7 b8 b9 b10 b11 b12 b13 b14 b15 b16 b17 kinds ni cm first second An An Tm Tm bc hds tgs qc qi qo qs cn vals Nw Nw Kw Kw 2]) (fun _ => wMM g mm b1 b2 b3 b4 b5 b6 b7 b8 b9 b10 b11 b12 b13 b14 b15 b16 b17 kinds ni cm first second An An Tm Tm bc hds tgs qc qi qo qs cn vals Nw Nw Kw Kw 2 ++ ([])) rfl rfl rfl (fun _ => rfl) (fun _ => rfl) (fun _ => rfl) (fun _ => rfl) rfl rfl rfl rfl rfl (Nat.le_of_ble_eq_true rfl) dX6_merge_39 ⟨by decide, by decide⟩ (fun r_7 _ h_6 => ?_)
    subst h_6
    refine v_ifz_eq C 47 dX6_merge_42 (by decide) (fun h => nomatch h) (fun _ => ?_)
    refine v_iconst C (z := 0) dX6_merge_45 ?_
    exact (v_iret C hr hl () (by decide) (by decide) rfl trivial dX6_merge_46)
set_option maxHeartbeats 4000000 in
set_option maxRecDepth 100000 in
theorem kX6_merge_3 (l : Launch) (g : vG) {mm b1 b2 b3 b4 b5 b6 b7 b8 b9 b10 b11 b12 b13 b14 b15 b16 b17 : Nat} {kinds tgs first second vals qs : Nat → Int} {hds An qi qo Tm Nw Kw ris : Nat → Nat} {ni bc cm cn qc cd : Nat} {x0 : Nat} {y0 : Nat} (hI : MI vals ris cn kinds tgs first second qs hds An qi qo Tm ni bc cm qc) (hx0 : x0 < bc) (hy0 : y0 < bc) (hq : ¬ (An (hds (x0))).testBit (hds (y0)) = true) (hcf : cm = 100) : mI l g yX6_merge wsX6_merge ({ frames := 3, cells := 0, slots := 0, locals := 65 }) [.ref (mm), .int (iI ((x0 : Nat) : Int)), .int (iI ((y0 : Nat) : Int))] (wMM g mm b1 b2 b3 b4 b5 b6 b7 b8 b9 b10 b11 b12 b13 b14 b15 b16 b17 kinds ni cm first second An An Tm Tm bc hds tgs qc qi qo qs cn vals Nw Nw Kw Kw cd ++ ([])) (fun _ : Unit => wMM g mm b1 b2 b3 b4 b5 b6 b7 b8 b9 b10 b11 b12 b13 b14 b15 b16 b17 kinds ni cm first second An An Tm Tm bc hds tgs qc qi qo qs cn vals Nw Nw Kw Kw 3 ++ ([])) (fun _ _ => True) 0 0 := by
  refine mI_of (cc := cX6_merge) (maxL := 4) (ret := (some .int)) (own := RX6) (by decide) rfl rfl (Nat.le_of_ble_eq_true rfl) ?_
  intro p e s m args below meth c A C hr hl hin
  obtain ⟨hni, hbc1, hbc, hcm1, hcm, hcn1, hnm, hqc, hhd, htg, hf, hs, hfc, hsc, hAn, hTm, hao, hpal, hqb, hqi, htk, hkd⟩ := id hI
  refine v_aload_n C dX6_merge_0 rfl 0 rfl ?_
  refine v_iload_n C dX6_merge_1 rfl 1 rfl ?_
  refine v_iload_n C dX6_merge_2 rfl 2 rfl ?_
  refine v_invVI C (As := [.int (iI ((x0 : Nat) : Int)), .int (iI ((y0 : Nat) : Int))]) (q0 := 0) (ci := 6) (kX6_isNoBranches_in l g (mm := mm) (b1 := b1) (b2 := b2) (b3 := b3) (b4 := b4) (b5 := b5) (b6 := b6) (b7 := b7) (b8 := b8) (b9 := b9) (b10 := b10) (b11 := b11) (b12 := b12) (b13 := b13) (b14 := b14) (b15 := b15) (b16 := b16) (b17 := b17) (kinds := kinds) (tgs := tgs) (first := first) (second := second) (vals := vals) (qs := qs) (hds := hds) (An := An) (qi := qi) (qo := qo) (Tm := Tm) (Nw := Nw) (Kw := Kw) (ni := ni) (bc := bc) (cm := cm) (cn := cn) (qc := qc) (cd := cd) (ris := ris) (i0 := x0) (j0 := y0) (by omega) (by omega) (by omega) (by omega)) (cwV 2 C.2.2.2.2.1 gX6_merge_X6_isNoBranches rfl rfl rfl (by decide +kernel) ⟨Nat.le_of_ble_eq_true rfl, Nat.le_of_ble_eq_true rfl⟩) [wMM g mm b1 b2 b3 b4 b5 b6 b7 b8 b9 b10 b11 b12 b13 b14 b15 b16 b17 kinds ni cm first second An An Tm Tm bc hds tgs qc qi qo qs cn vals Nw Nw Kw Kw cd] [0] [] [] (fun _ => [wMM g mm b1 b2 b3 b4 b5 b6 b7 b8 b9 b10 b11 b12 b13 b14 b15 b16 b17 kinds ni cm first second An An Tm Tm bc hds tgs qc qi qo qs cn vals Nw Nw Kw Kw 0]) (fun _ => wMM g mm b1 b2 b3 b4 b5 b6 b7 b8 b9 b10 b11 b12 b13 b14 b15 b16 b17 kinds ni cm first second An An Tm Tm bc hds tgs qc qi qo qs cn vals Nw Nw Kw Kw 0 ++ ([])) rfl rfl rfl (fun _ => rfl) (fun _ => rfl) (fun _ => rfl) (fun _ => rfl) rfl rfl rfl rfl rfl (Nat.le_of_ble_eq_true rfl) dX6_merge_3 ⟨by decide, by decide⟩ (fun r_2 _ h_1 => ?_)
  subst h_1
  refine v_ifz_ne C 45 dX6_merge_6 (by decide) (fun h => nomatch h) (fun _ => ?_)
  have hhx := hhd x0
  have hhy := hhd y0
  refine v_aload_n C dX6_merge_9 rfl 0 rfl ?_
  refine v_aload_n C dX6_merge_10 rfl 0 rfl ?_
  refine v_aload_n C dX6_merge_11 rfl 0 rfl ?_
  refine v_get C 0 (kf := 10) rfl rfl (by decide) inX6_merge_6 lkX6_merge_40 rfl rfl dX6_merge_12 ?_
  refine v_iload_n C dX6_merge_15 rfl 2 rfl ?_
  refine v_ialdn C 8 (y0) rfl rfl (by omega) (by decide) dX6_merge_16 ?_
  refine v_aload_n C dX6_merge_17 rfl 0 rfl ?_
  refine v_get C 0 (kf := 10) rfl rfl (by decide) inX6_merge_6 lkX6_merge_40 rfl rfl dX6_merge_18 ?_
  refine v_iload_n C dX6_merge_21 rfl 1 rfl ?_
  refine v_ialdn C 8 (x0) rfl rfl (by omega) (by decide) dX6_merge_22 ?_
  refine v_invVI C (As := [.int (iI ((hds (y0) : Nat) : Int)), .int (iI ((hds (x0) : Nat) : Int))]) (q0 := 0) (ci := 6) (kX6_isOld l g (mm := mm) (b1 := b1) (b2 := b2) (b3 := b3) (b4 := b4) (b5 := b5) (b6 := b6) (b7 := b7) (b8 := b8) (b9 := b9) (b10 := b10) (b11 := b11) (b12 := b12) (b13 := b13) (b14 := b14) (b15 := b15) (b16 := b16) (b17 := b17) (kinds := kinds) (tgs := tgs) (first := first) (second := second) (vals := vals) (qs := qs) (hds := hds) (An := An) (qi := qi) (qo := qo) (Tm := Tm) (Nw := Nw) (Kw := Kw) (ni := ni) (bc := bc) (cm := cm) (cn := cn) (qc := qc) (cd := 0) (ris := ris) (c0 := hds (y0)) (d0 := hds (x0)) (by omega) (by omega) hAn) (cwV 2 C.2.2.2.2.1 gX6_merge_X6_isOld rfl rfl rfl (by decide +kernel) ⟨Nat.le_of_ble_eq_true rfl, Nat.le_of_ble_eq_true rfl⟩) [wMM g mm b1 b2 b3 b4 b5 b6 b7 b8 b9 b10 b11 b12 b13 b14 b15 b16 b17 kinds ni cm first second An An Tm Tm bc hds tgs qc qi qo qs cn vals Nw Nw Kw Kw 0] [0] [] [.ref (mm)] (fun _ => [wMM g mm b1 b2 b3 b4 b5 b6 b7 b8 b9 b10 b11 b12 b13 b14 b15 b16 b17 kinds ni cm first second An An Tm Tm bc hds tgs qc qi qo qs cn vals Nw Nw Kw Kw 0]) (fun _ => wMM g mm b1 b2 b3 b4 b5 b6 b7 b8 b9 b10 b11 b12 b13 b14 b15 b16 b17 kinds ni cm first second An An Tm Tm bc hds tgs qc qi qo qs cn vals Nw Nw Kw Kw 0 ++ ([])) rfl rfl rfl (fun _ => rfl) (fun _ => rfl) (fun _ => rfl) (fun _ => rfl) rfl rfl rfl rfl rfl (Nat.le_of_ble_eq_true rfl) dX6_merge_23 ⟨by decide, by decide⟩ (fun r_4 _ h_3 => ?_)
  subst h_3
  refine v_ifz_eq C 33 dX6_merge_26 (by decide) (fun c_5 => ?_) (fun c_5 => ?_)
  ·
    refine v_iconst C (z := 3) dX6_merge_33 ?_
    refine v_aload_n C dX6_merge_34 rfl 0 rfl ?_
    refine v_invVI C (As := []) (q0 := 0) (ci := 6) (kX6_full_y l g (mm := mm) (b1 := b1) (b2 := b2) (b3 := b3) (b4 := b4) (b5 := b5) (b6 := b6) (b7 := b7) (b8 := b8) (b9 := b9) (b10 := b10) (b11 := b11) (b12 := b12) (b13 := b13) (b14 := b14) (b15 := b15) (b16 := b16) (b17 := b17) (kinds := kinds) (tgs := tgs) (first := first) (second := second) (vals := vals) (qs := qs) (hds := hds) (An := An) (qi := qi) (qo := qo) (Tm := Tm) (Nw := Nw) (Kw := Kw) (ni := ni) (bc := bc) (cm := cm) (cn := cn) (qc := qc) (cd := 0) (ris := ris)  (by omega)) (cwV 0 C.2.2.2.2.1 gX6_merge_X6_full rfl rfl rfl (by decide +kernel) ⟨Nat.le_of_ble_eq_true rfl, Nat.le_of_ble_eq_true rfl⟩) [wMM g mm b1 b2 b3 b4 b5 b6 b7 b8 b9 b10 b11 b12 b13 b14 b15 b16 b17 kinds ni cm first second An An Tm Tm bc hds tgs qc qi qo qs cn vals Nw Nw Kw Kw 0] [0] [] [.int (iI (3)), .ref (mm)] (fun _ => [wMM g mm b1 b2 b3 b4 b5 b6 b7 b8 b9 b10 b11 b12 b13 b14 b15 b16 b17 kinds ni cm first second An An Tm Tm bc hds tgs qc qi qo qs cn vals Nw Nw Kw Kw 0]) (fun _ => wMM g mm b1 b2 b3 b4 b5 b6 b7 b8 b9 b10 b11 b12 b13 b14 b15 b16 b17 kinds ni cm first second An An Tm Tm bc hds tgs qc qi qo qs cn vals Nw Nw Kw Kw 0 ++ ([])) rfl rfl rfl (fun _ => rfl) (fun _ => rfl) (fun _ => rfl) (fun _ => rfl) rfl rfl rfl rfl rfl (Nat.le_of_ble_eq_true rfl) dX6_merge_35 ⟨by decide, by decide⟩ (fun r_7 _ h_6 => ?_)
    subst h_6
    refine v_imul C dX6_merge_38 ?_
    refine v_st (st' := [.int (iI (3)), .ref (mm)]) rfl ?_
    refine v_invVI C (As := [.int (iI (3))]) (q0 := 0) (ci := 6) (kX6_fails_p l g (mm := mm) (b1 := b1) (b2 := b2) (b3 := b3) (b4 := b4) (b5 := b5) (b6 := b6) (b7 := b7) (b8 := b8) (b9 := b9) (b10 := b10) (b11 := b11) (b12 := b12) (b13 := b13) (b14 := b14) (b15 := b15) (b16 := b16) (b17 := b17) (kinds := kinds) (tgs := tgs) (first := first) (second := second) (vals := vals) (qs := qs) (hds := hds) (An := An) (qi := qi) (qo := qo) (Tm := Tm) (Nw := Nw) (Kw := Kw) (ni := ni) (bc := bc) (cm := cm) (cn := cn) (qc := qc) (cd := 0) (ris := ris) (q := 3) (by decide)) (cwV 1 C.2.2.2.2.1 gX6_merge_X6_fails rfl rfl rfl (by decide +kernel) ⟨Nat.le_of_ble_eq_true rfl, Nat.le_of_ble_eq_true rfl⟩) [wMM g mm b1 b2 b3 b4 b5 b6 b7 b8 b9 b10 b11 b12 b13 b14 b15 b16 b17 kinds ni cm first second An An Tm Tm bc hds tgs qc qi qo qs cn vals Nw Nw Kw Kw 0] [0] [] [] (fun _ => [wMM g mm b1 b2 b3 b4 b5 b6 b7 b8 b9 b10 b11 b12 b13 b14 b15 b16 b17 kinds ni cm first second An An Tm Tm bc hds tgs qc qi qo qs cn vals Nw Nw Kw Kw 3]) (fun _ => wMM g mm b1 b2 b3 b4 b5 b6 b7 b8 b9 b10 b11 b12 b13 b14 b15 b16 b17 kinds ni cm first second An An Tm Tm bc hds tgs qc qi qo qs cn vals Nw Nw Kw Kw 3 ++ ([])) rfl rfl rfl (fun _ => rfl) (fun _ => rfl) (fun _ => rfl) (fun _ => rfl) rfl rfl rfl rfl rfl (Nat.le_of_ble_eq_true rfl) dX6_merge_39 ⟨by decide, by decide⟩ (fun r_9 _ h_8 => ?_)
    subst h_8
    refine v_ifz_eq C 47 dX6_merge_42 (by decide) (fun h => nomatch h) (fun _ => ?_)
    refine v_iconst C (z := 0) dX6_merge_45 ?_
    exact (v_iret C hr hl () (by decide) (by decide) rfl trivial dX6_merge_46)
  ·
    exact absurd c_5 hq
theorem inX6_wouldConflict_6 : ∀ w ∈ u_ws RX6 TX6 23, w ∈ wsX6_wouldConflict := by decide +kernel
theorem lkX6_wouldConflict_40 : Cond.fieldLink RX6 40 "MergeAtelierModel" "heads" "[I" ∈ wsX6_wouldConflict := by decide +kernel
theorem lkX6_wouldConflict_76 : Cond.fieldLink RX6 76 "MergeAtelierModel" "items" "I" ∈ wsX6_wouldConflict := by decide +kernel
theorem lkX6_wouldConflict_61 : Cond.fieldLink RX6 61 "MergeAtelierModel" "newLow" "[J" ∈ wsX6_wouldConflict := by decide +kernel
theorem lkX6_wouldConflict_64 : Cond.fieldLink RX6 64 "MergeAtelierModel" "newHigh" "[J" ∈ wsX6_wouldConflict := by decide +kernel
set_option maxHeartbeats 4000000 in
set_option maxRecDepth 100000 in
theorem kX6_wouldConflict_ok (l : Launch) (g : vG) {mm b1 b2 b3 b4 b5 b6 b7 b8 b9 b10 b11 b12 b13 b14 b15 b16 b17 : Nat} {kinds tgs first second vals qs : Nat → Int} {hds An qi qo Tm Nw Kw ris : Nat → Nat} {ni bc cm cn qc cd : Nat} {x0 : Nat} {y0 : Nat} (hI : MI vals ris cn kinds tgs first second qs hds An qi qo Tm ni bc cm qc) (hx0 : x0 < bc) (hy0 : y0 < bc)  : mI l g yX6_wouldConflict wsX6_wouldConflict ({ frames := 5, cells := 0, slots := 0, locals := 134 }) [.ref (mm), .int (iI ((x0 : Nat) : Int)), .int (iI ((y0 : Nat) : Int))] (wMM g mm b1 b2 b3 b4 b5 b6 b7 b8 b9 b10 b11 b12 b13 b14 b15 b16 b17 kinds ni cm first second An An Tm Tm bc hds tgs qc qi qo qs cn vals Nw Nw Kw Kw cd ++ ([])) (fun _ : Unit => wMM g mm b1 b2 b3 b4 b5 b6 b7 b8 b9 b10 b11 b12 b13 b14 b15 b16 b17 kinds ni cm first second An An Tm Tm bc hds tgs qc qi qo qs cn vals (mgN vals cn qi qo qs An Tm (hds (x0)) (hds (y0)) ni qc Nw) (mgN vals cn qi qo qs An Tm (hds (x0)) (hds (y0)) ni qc Nw) Kw Kw 0 ++ ([])) (fun v _ => v = iI ((fb_ct (fun i => decide (1 < cnt ((mgN vals cn qi qo qs An Tm (hds (x0)) (hds (y0)) ni qc Nw) i))) ni : Nat) : Int)) 0 0 := by
  refine mI_of (cc := cX6_wouldConflict) (maxL := 5) (ret := (some .int)) (own := RX6) (by decide) rfl rfl (Nat.le_of_ble_eq_true rfl) ?_
  intro p e s m args below meth c A C hr hl hin
  obtain ⟨hni, hbc1, hbc, hcm1, hcm, hcn1, hnm, hqc, hhd, htg, hf, hs, hfc, hsc, hAn, hTm, hao, hpal, hqb, hqi, htk, hkd⟩ := id hI
  refine v_aload_n C dX6_wouldConflict_0 rfl 0 rfl ?_
  refine v_iload_n C dX6_wouldConflict_1 rfl 1 rfl ?_
  refine v_iload_n C dX6_wouldConflict_2 rfl 2 rfl ?_
  refine v_invVI C (As := [.int (iI ((x0 : Nat) : Int)), .int (iI ((y0 : Nat) : Int))]) (q0 := 0) (ci := 6) (kX6_isNoBranches_in l g (mm := mm) (b1 := b1) (b2 := b2) (b3 := b3) (b4 := b4) (b5 := b5) (b6 := b6) (b7 := b7) (b8 := b8) (b9 := b9) (b10 := b10) (b11 := b11) (b12 := b12) (b13 := b13) (b14 := b14) (b15 := b15) (b16 := b16) (b17 := b17) (kinds := kinds) (tgs := tgs) (first := first) (second := second) (vals := vals) (qs := qs) (hds := hds) (An := An) (qi := qi) (qo := qo) (Tm := Tm) (Nw := Nw) (Kw := Kw) (ni := ni) (bc := bc) (cm := cm) (cn := cn) (qc := qc) (cd := cd) (ris := ris) (i0 := x0) (j0 := y0) (by omega) (by omega) (by omega) (by omega)) (cwV 2 C.2.2.2.2.1 gX6_wouldConflict_X6_isNoBranches rfl rfl rfl (by decide +kernel) ⟨Nat.le_of_ble_eq_true rfl, Nat.le_of_ble_eq_true rfl⟩) [wMM g mm b1 b2 b3 b4 b5 b6 b7 b8 b9 b10 b11 b12 b13 b14 b15 b16 b17 kinds ni cm first second An An Tm Tm bc hds tgs qc qi qo qs cn vals Nw Nw Kw Kw cd] [0] [] [] (fun _ => [wMM g mm b1 b2 b3 b4 b5 b6 b7 b8 b9 b10 b11 b12 b13 b14 b15 b16 b17 kinds ni cm first second An An Tm Tm bc hds tgs qc qi qo qs cn vals Nw Nw Kw Kw 0]) (fun _ => wMM g mm b1 b2 b3 b4 b5 b6 b7 b8 b9 b10 b11 b12 b13 b14 b15 b16 b17 kinds ni cm first second An An Tm Tm bc hds tgs qc qi qo qs cn vals Nw Nw Kw Kw 0 ++ ([])) rfl rfl rfl (fun _ => rfl) (fun _ => rfl) (fun _ => rfl) (fun _ => rfl) rfl rfl rfl rfl rfl (Nat.le_of_ble_eq_true rfl) dX6_wouldConflict_3 ⟨by decide, by decide⟩ (fun r_2 _ h_1 => ?_)
  subst h_1
  refine v_ifz_eq C 11 dX6_wouldConflict_6 (by decide) (fun _ => ?_) (fun h => nomatch h) 
  have hhx := hhd x0
  have hhy := hhd y0
  have hno : NOK cn ni (mgN vals cn qi qo qs An Tm (hds (x0)) (hds (y0)) ni qc Nw) := mgN_ok htk hhx hhy hqi
  refine v_aload_n C dX6_wouldConflict_11 rfl 0 rfl ?_
  refine v_aload_n C dX6_wouldConflict_12 rfl 0 rfl ?_
  refine v_get C 0 (kf := 10) rfl rfl (by decide) inX6_wouldConflict_6 lkX6_wouldConflict_40 rfl rfl dX6_wouldConflict_13 ?_
  refine v_iload_n C dX6_wouldConflict_16 rfl 1 rfl ?_
  refine v_ialdn C 8 (x0) rfl rfl (by omega) (by decide) dX6_wouldConflict_17 ?_
  refine v_aload_n C dX6_wouldConflict_18 rfl 0 rfl ?_
  refine v_get C 0 (kf := 10) rfl rfl (by decide) inX6_wouldConflict_6 lkX6_wouldConflict_40 rfl rfl dX6_wouldConflict_19 ?_
  refine v_iload_n C dX6_wouldConflict_22 rfl 2 rfl ?_
  refine v_ialdn C 8 (y0) rfl rfl (by omega) (by decide) dX6_wouldConflict_23 ?_
  refine v_invVV C (As := [.int (iI ((hds (x0) : Nat) : Int)), .int (iI ((hds (y0) : Nat) : Int))]) (q0 := 0) (ci := 6) (kX6_merges l g (mm := mm) (b1 := b1) (b2 := b2) (b3 := b3) (b4 := b4) (b5 := b5) (b6 := b6) (b7 := b7) (b8 := b8) (b9 := b9) (b10 := b10) (b11 := b11) (b12 := b12) (b13 := b13) (b14 := b14) (b15 := b15) (b16 := b16) (b17 := b17) (kinds := kinds) (tgs := tgs) (first := first) (second := second) (vals := vals) (qs := qs) (hds := hds) (An := An) (qi := qi) (qo := qo) (Tm := Tm) (Nw := Nw) (Kw := Kw) (ni := ni) (bc := bc) (cm := cm) (cn := cn) (qc := qc) (cd := 0) (ris := ris) (f0 := hds (x0)) (s0 := hds (y0)) hI (by omega) (by omega)) (cwV 2 C.2.2.2.2.1 gX6_wouldConflict_X6_merges rfl rfl rfl (by decide +kernel) ⟨Nat.le_of_ble_eq_true rfl, Nat.le_of_ble_eq_true rfl⟩) [wMM g mm b1 b2 b3 b4 b5 b6 b7 b8 b9 b10 b11 b12 b13 b14 b15 b16 b17 kinds ni cm first second An An Tm Tm bc hds tgs qc qi qo qs cn vals Nw Nw Kw Kw 0] [0] [] [] (fun _ => [wMM g mm b1 b2 b3 b4 b5 b6 b7 b8 b9 b10 b11 b12 b13 b14 b15 b16 b17 kinds ni cm first second An An Tm Tm bc hds tgs qc qi qo qs cn vals (mgN vals cn qi qo qs An Tm (hds (x0)) (hds (y0)) ni qc Nw) (mgN vals cn qi qo qs An Tm (hds (x0)) (hds (y0)) ni qc Nw) Kw Kw 0]) (fun _ => wMM g mm b1 b2 b3 b4 b5 b6 b7 b8 b9 b10 b11 b12 b13 b14 b15 b16 b17 kinds ni cm first second An An Tm Tm bc hds tgs qc qi qo qs cn vals (mgN vals cn qi qo qs An Tm (hds (x0)) (hds (y0)) ni qc Nw) (mgN vals cn qi qo qs An Tm (hds (x0)) (hds (y0)) ni qc Nw) Kw Kw 0 ++ ([])) rfl rfl rfl (fun _ => rfl) (fun _ => rfl) (fun _ => rfl) (fun _ => rfl) rfl rfl rfl rfl rfl (Nat.le_of_ble_eq_true rfl) dX6_wouldConflict_24 ⟨by decide, by decide⟩ (fun _ h_3 => ?_)
  refine v_iconst C (z := 0) dX6_wouldConflict_27 ?_
  refine v_istore_n C [(3, .int (iI (0))), (0, .ref (mm)), (1, .int (iI ((x0 : Nat) : Int))), (2, .int (iI ((y0 : Nat) : Int)))] dX6_wouldConflict_28 rfl (by decide) rfl ?_
  refine v_iconst C (z := 0) dX6_wouldConflict_29 ?_
  refine v_istore C [(4, .int (iI (0))), (3, .int (iI (0))), (0, .ref (mm)), (1, .int (iI ((x0 : Nat) : Int))), (2, .int (iI ((y0 : Nat) : Int)))] dX6_wouldConflict_30 (by decide) rfl ?_
  refine v_lv (lv' := [(0, .ref (mm)), (1, .int (iI ((x0 : Nat) : Int))), (2, .int (iI ((y0 : Nat) : Int))), (3, .int (iI ((fb_ct (fun i => decide (1 < cnt ((mgN vals cn qi qo qs An Tm (hds (x0)) (hds (y0)) ni qc Nw) i))) 0 : Nat) : Int))), (4, .int (iI ((0 : Nat) : Int)))]) [2, 3, 4, 1, 0] rfl ?_
  refine v_ws (ws' := wMM g mm b1 b2 b3 b4 b5 b6 b7 b8 b9 b10 b11 b12 b13 b14 b15 b16 b17 kinds ni cm first second An An Tm Tm bc hds tgs qc qi qo qs cn vals (mgN vals cn qi qo qs An Tm (hds (x0)) (hds (y0)) ni qc Nw) (mgN vals cn qi qo qs An Tm (hds (x0)) (hds (y0)) ni qc Nw) Kw Kw 0 ++ ([])) rfl ?_
  refine v_lp1 (X := Nat) (fun i => wMM g mm b1 b2 b3 b4 b5 b6 b7 b8 b9 b10 b11 b12 b13 b14 b15 b16 b17 kinds ni cm first second An An Tm Tm bc hds tgs qc qi qo qs cn vals (mgN vals cn qi qo qs An Tm (hds (x0)) (hds (y0)) ni qc Nw) (mgN vals cn qi qo qs An Tm (hds (x0)) (hds (y0)) ni qc Nw) Kw Kw 0 ++ ([])) (fun i => [(0, .ref (mm)), (1, .int (iI ((x0 : Nat) : Int))), (2, .int (iI ((y0 : Nat) : Int))), (3, .int (iI ((fb_ct (fun i => decide (1 < cnt ((mgN vals cn qi qo qs An Tm (hds (x0)) (hds (y0)) ni qc Nw) i))) i : Nat) : Int))), (4, .int (iI ((i : Nat) : Int)))]) (fun i => ni - i) (fun i => i ≤ ni) ?_ (0) (Nat.zero_le _)
  intro i hJ32 ih32
  try dsimp only at hJ32 ⊢
  refine v_iload C dX6_wouldConflict_32 4 rfl ?_
  refine v_aload_n C dX6_wouldConflict_34 rfl 0 rfl ?_
  refine v_get C 0 (kf := 0) rfl rfl (by decide) inX6_wouldConflict_6 lkX6_wouldConflict_76 rfl rfl dX6_wouldConflict_35 ?_
  refine v_icmp_ge C 77 dX6_wouldConflict_38 (by decide) ⟨by omega, by omega⟩ ⟨by omega, by omega⟩ (fun c_5 => ?_) (fun c_5 => ?_)
  ·
    obtain rfl : ni = i := by omega
    refine v_iload_n C dX6_wouldConflict_77 rfl 3 rfl ?_
    exact (v_iret C hr hl () (by decide) (by decide) rfl rfl dX6_wouldConflict_78)
  ·
    refine v_iload_n C dX6_wouldConflict_41 rfl 3 rfl ?_
    refine v_aload_n C dX6_wouldConflict_42 rfl 0 rfl ?_
    refine v_aload_n C dX6_wouldConflict_43 rfl 0 rfl ?_
    refine v_get C 0 (kf := 18) rfl rfl (by decide) inX6_wouldConflict_6 lkX6_wouldConflict_61 rfl rfl dX6_wouldConflict_44 ?_
    refine v_iload C dX6_wouldConflict_47 4 rfl ?_
    refine v_lald C 14 (i) rfl rfl (by omega) (by decide) dX6_wouldConflict_49 ?_
    refine v_aload_n C dX6_wouldConflict_50 rfl 0 rfl ?_
    refine v_get C 0 (kf := 19) rfl rfl (by decide) inX6_wouldConflict_6 lkX6_wouldConflict_64 rfl rfl dX6_wouldConflict_51 ?_
    refine v_iload C dX6_wouldConflict_54 4 rfl ?_
    refine v_lald C 15 (i) rfl rfl (by omega) (by decide) dX6_wouldConflict_56 ?_
    refine v_invVI C (As := [.long (loM ((mgN vals cn qi qo qs An Tm (hds (x0)) (hds (y0)) ni qc Nw) (i))), .long (hiM ((mgN vals cn qi qo qs An Tm (hds (x0)) (hds (y0)) ni qc Nw) (i)))]) (q0 := 0) (ci := 6) (kX6_count l g (mm := mm) (b1 := b1) (b2 := b2) (b3 := b3) (b4 := b4) (b5 := b5) (b6 := b6) (b7 := b7) (b8 := b8) (b9 := b9) (b10 := b10) (b11 := b11) (b12 := b12) (b13 := b13) (b14 := b14) (b15 := b15) (b16 := b16) (b17 := b17) (kinds := kinds) (tgs := tgs) (first := first) (second := second) (vals := vals) (qs := qs) (hds := hds) (An := An) (qi := qi) (qo := qo) (Tm := Tm) (Nw := mgN vals cn qi qo qs An Tm (hds (x0)) (hds (y0)) ni qc Nw) (Kw := Kw) (ni := ni) (bc := bc) (cm := cm) (cn := cn) (qc := qc) (cd := 0) (ris := ris) (S := (mgN vals cn qi qo qs An Tm (hds (x0)) (hds (y0)) ni qc Nw) (i)) (by omega) (hno i (by omega)).2) (cwV 2 C.2.2.2.2.1 gX6_wouldConflict_X6_count rfl rfl rfl (by decide +kernel) ⟨Nat.le_of_ble_eq_true rfl, Nat.le_of_ble_eq_true rfl⟩) [wMM g mm b1 b2 b3 b4 b5 b6 b7 b8 b9 b10 b11 b12 b13 b14 b15 b16 b17 kinds ni cm first second An An Tm Tm bc hds tgs qc qi qo qs cn vals (mgN vals cn qi qo qs An Tm (hds (x0)) (hds (y0)) ni qc Nw) (mgN vals cn qi qo qs An Tm (hds (x0)) (hds (y0)) ni qc Nw) Kw Kw 0] [0] [] [.int (iI ((fb_ct (fun i => decide (1 < cnt ((mgN vals cn qi qo qs An Tm (hds (x0)) (hds (y0)) ni qc Nw) i))) i : Nat) : Int))] (fun _ => [wMM g mm b1 b2 b3 b4 b5 b6 b7 b8 b9 b10 b11 b12 b13 b14 b15 b16 b17 kinds ni cm first second An An Tm Tm bc hds tgs qc qi qo qs cn vals (mgN vals cn qi qo qs An Tm (hds (x0)) (hds (y0)) ni qc Nw) (mgN vals cn qi qo qs An Tm (hds (x0)) (hds (y0)) ni qc Nw) Kw Kw 0]) (fun _ => wMM g mm b1 b2 b3 b4 b5 b6 b7 b8 b9 b10 b11 b12 b13 b14 b15 b16 b17 kinds ni cm first second An An Tm Tm bc hds tgs qc qi qo qs cn vals (mgN vals cn qi qo qs An Tm (hds (x0)) (hds (y0)) ni qc Nw) (mgN vals cn qi qo qs An Tm (hds (x0)) (hds (y0)) ni qc Nw) Kw Kw 0 ++ ([])) rfl rfl rfl (fun _ => rfl) (fun _ => rfl) (fun _ => rfl) (fun _ => rfl) rfl rfl rfl rfl rfl (Nat.le_of_ble_eq_true rfl) dX6_wouldConflict_57 ⟨by decide, by decide⟩ (fun r_7 _ h_6 => ?_)
    subst h_6
    refine v_iconst C (z := 1) dX6_wouldConflict_60 ?_
    refine v_icmp_le C 68 dX6_wouldConflict_61 (by decide) (cnt31 _) (b31_lit _ rfl) (fun c_8 => ?_) (fun c_8 => ?_)
    ·
      refine v_iconst C (z := 0) dX6_wouldConflict_68 ?_
      refine v_iadd C dX6_wouldConflict_69 ?_
      rw [show (((fb_ct (fun i => decide (1 < cnt ((mgN vals cn qi qo qs An Tm (hds (x0)) (hds (y0)) ni qc Nw) i))) i : Nat) : Int)) + 0 = (((fb_ct (fun i => decide (1 < cnt ((mgN vals cn qi qo qs An Tm (hds (x0)) (hds (y0)) ni qc Nw) i))) i) + 0 : Nat) : Int) from rfl]
      refine v_istore_n C [(3, .int (iI (((fb_ct (fun i => decide (1 < cnt ((mgN vals cn qi qo qs An Tm (hds (x0)) (hds (y0)) ni qc Nw) i))) i) + 0 : Nat) : Int))), (0, .ref (mm)), (1, .int (iI ((x0 : Nat) : Int))), (2, .int (iI ((y0 : Nat) : Int))), (4, .int (iI ((i : Nat) : Int)))] dX6_wouldConflict_70 rfl (by decide) rfl ?_
      refine v_iinc C [(4, .int (iI (((i : Nat) : Int) + 1))), (3, .int (iI (((fb_ct (fun i => decide (1 < cnt ((mgN vals cn qi qo qs An Tm (hds (x0)) (hds (y0)) ni qc Nw) i))) i) + 0 : Nat) : Int))), (0, .ref (mm)), (1, .int (iI ((x0 : Nat) : Int))), (2, .int (iI ((y0 : Nat) : Int)))] dX6_wouldConflict_71 4 rfl (by decide) rfl ?_
      rw [show ((i : Nat) : Int) + 1 = ((i + 1 : Nat) : Int) from rfl]
      refine v_goto C 32 dX6_wouldConflict_74 (by decide) ?_
      refine v_lv (lv' := [(0, .ref (mm)), (1, .int (iI ((x0 : Nat) : Int))), (2, .int (iI ((y0 : Nat) : Int))), (3, .int (iI (((fb_ct (fun i => decide (1 < cnt ((mgN vals cn qi qo qs An Tm (hds (x0)) (hds (y0)) ni qc Nw) i))) i) + 0 : Nat) : Int))), (4, .int (iI ((i + 1 : Nat) : Int)))]) [2, 3, 4, 1, 0] rfl ?_
      rw [show (((fb_ct (fun i => decide (1 < cnt ((mgN vals cn qi qo qs An Tm (hds (x0)) (hds (y0)) ni qc Nw) i))) i) + 0 : Nat) : Int) = ((fb_ct (fun i => decide (1 < cnt ((mgN vals cn qi qo qs An Tm (hds (x0)) (hds (y0)) ni qc Nw) i))) (i + 1) : Nat) : Int) from (ct_fz (decide_eq_false (by omega)))]
      refine v_ws (ws' := wMM g mm b1 b2 b3 b4 b5 b6 b7 b8 b9 b10 b11 b12 b13 b14 b15 b16 b17 kinds ni cm first second An An Tm Tm bc hds tgs qc qi qo qs cn vals (mgN vals cn qi qo qs An Tm (hds (x0)) (hds (y0)) ni qc Nw) (mgN vals cn qi qo qs An Tm (hds (x0)) (hds (y0)) ni qc Nw) Kw Kw 0 ++ ([])) rfl ?_
      exact ih32 (i + 1) (by omega) (by omega)
    ·
      refine v_iconst C (z := 1) dX6_wouldConflict_64 ?_
      refine v_goto C 69 dX6_wouldConflict_65 (by decide) ?_
      refine v_iadd C dX6_wouldConflict_69 ?_
      rw [show (((fb_ct (fun i => decide (1 < cnt ((mgN vals cn qi qo qs An Tm (hds (x0)) (hds (y0)) ni qc Nw) i))) i : Nat) : Int)) + 1 = (((fb_ct (fun i => decide (1 < cnt ((mgN vals cn qi qo qs An Tm (hds (x0)) (hds (y0)) ni qc Nw) i))) i) + 1 : Nat) : Int) from rfl]
      refine v_istore_n C [(3, .int (iI (((fb_ct (fun i => decide (1 < cnt ((mgN vals cn qi qo qs An Tm (hds (x0)) (hds (y0)) ni qc Nw) i))) i) + 1 : Nat) : Int))), (0, .ref (mm)), (1, .int (iI ((x0 : Nat) : Int))), (2, .int (iI ((y0 : Nat) : Int))), (4, .int (iI ((i : Nat) : Int)))] dX6_wouldConflict_70 rfl (by decide) rfl ?_
      refine v_iinc C [(4, .int (iI (((i : Nat) : Int) + 1))), (3, .int (iI (((fb_ct (fun i => decide (1 < cnt ((mgN vals cn qi qo qs An Tm (hds (x0)) (hds (y0)) ni qc Nw) i))) i) + 1 : Nat) : Int))), (0, .ref (mm)), (1, .int (iI ((x0 : Nat) : Int))), (2, .int (iI ((y0 : Nat) : Int)))] dX6_wouldConflict_71 4 rfl (by decide) rfl ?_
      rw [show ((i : Nat) : Int) + 1 = ((i + 1 : Nat) : Int) from rfl]
      refine v_goto C 32 dX6_wouldConflict_74 (by decide) ?_
      refine v_lv (lv' := [(0, .ref (mm)), (1, .int (iI ((x0 : Nat) : Int))), (2, .int (iI ((y0 : Nat) : Int))), (3, .int (iI (((fb_ct (fun i => decide (1 < cnt ((mgN vals cn qi qo qs An Tm (hds (x0)) (hds (y0)) ni qc Nw) i))) i) + 1 : Nat) : Int))), (4, .int (iI ((i + 1 : Nat) : Int)))]) [2, 3, 4, 1, 0] rfl ?_
      rw [show (((fb_ct (fun i => decide (1 < cnt ((mgN vals cn qi qo qs An Tm (hds (x0)) (hds (y0)) ni qc Nw) i))) i) + 1 : Nat) : Int) = ((fb_ct (fun i => decide (1 < cnt ((mgN vals cn qi qo qs An Tm (hds (x0)) (hds (y0)) ni qc Nw) i))) (i + 1) : Nat) : Int) from (ct_tz (decide_eq_true (by omega)))]
      refine v_ws (ws' := wMM g mm b1 b2 b3 b4 b5 b6 b7 b8 b9 b10 b11 b12 b13 b14 b15 b16 b17 kinds ni cm first second An An Tm Tm bc hds tgs qc qi qo qs cn vals (mgN vals cn qi qo qs An Tm (hds (x0)) (hds (y0)) ni qc Nw) (mgN vals cn qi qo qs An Tm (hds (x0)) (hds (y0)) ni qc Nw) Kw Kw 0 ++ ([])) rfl ?_
      exact ih32 (i + 1) (by omega) (by omega)
set_option maxHeartbeats 4000000 in
set_option maxRecDepth 100000 in
theorem kX6_wouldConflict_a (l : Launch) (g : vG) {mm b1 b2 b3 b4 b5 b6 b7 b8 b9 b10 b11 b12 b13 b14 b15 b16 b17 : Nat} {kinds tgs first second vals qs : Nat → Int} {hds An qi qo Tm Nw Kw ris : Nat → Nat} {ni bc cm cn qc cd : Nat} {x : Int} {y : Int} (hI : MI vals ris cn kinds tgs first second qs hds An qi qo Tm ni bc cm qc) (hx : b31 x) (hqx : ¬ (0 ≤ x ∧ x < ((bc : Nat) : Int))) (hy : b31 y)  : mI l g yX6_wouldConflict wsX6_wouldConflict ({ frames := 3, cells := 0, slots := 0, locals := 65 }) [.ref (mm), .int (iI (x)), .int (iI (y))] (wMM g mm b1 b2 b3 b4 b5 b6 b7 b8 b9 b10 b11 b12 b13 b14 b15 b16 b17 kinds ni cm first second An An Tm Tm bc hds tgs qc qi qo qs cn vals Nw Nw Kw Kw cd ++ ([])) (fun _ : Unit => wMM g mm b1 b2 b3 b4 b5 b6 b7 b8 b9 b10 b11 b12 b13 b14 b15 b16 b17 kinds ni cm first second An An Tm Tm bc hds tgs qc qi qo qs cn vals Nw Nw Kw Kw 1 ++ ([])) (fun _ _ => True) 0 0 := by
  refine mI_of (cc := cX6_wouldConflict) (maxL := 5) (ret := (some .int)) (own := RX6) (by decide) rfl rfl (Nat.le_of_ble_eq_true rfl) ?_
  intro p e s m args below meth c A C hr hl hin
  obtain ⟨hni, hbc1, hbc, hcm1, hcm, hcn1, hnm, hqc, hhd, htg, hf, hs, hfc, hsc, hAn, hTm, hao, hpal, hqb, hqi, htk, hkd⟩ := id hI
  have hx1 := hx.1
  have hx2 := hx.2
  have hy1 := hy.1
  have hy2 := hy.2
  refine v_aload_n C dX6_wouldConflict_0 rfl 0 rfl ?_
  refine v_iload_n C dX6_wouldConflict_1 rfl 1 rfl ?_
  refine v_iload_n C dX6_wouldConflict_2 rfl 2 rfl ?_
  refine v_invVI C (As := [.int (iI (x)), .int (iI (y))]) (q0 := 0) (ci := 6) (kX6_isNoBranches_a l g (mm := mm) (b1 := b1) (b2 := b2) (b3 := b3) (b4 := b4) (b5 := b5) (b6 := b6) (b7 := b7) (b8 := b8) (b9 := b9) (b10 := b10) (b11 := b11) (b12 := b12) (b13 := b13) (b14 := b14) (b15 := b15) (b16 := b16) (b17 := b17) (kinds := kinds) (tgs := tgs) (first := first) (second := second) (vals := vals) (qs := qs) (hds := hds) (An := An) (qi := qi) (qo := qo) (Tm := Tm) (Nw := Nw) (Kw := Kw) (ni := ni) (bc := bc) (cm := cm) (cn := cn) (qc := qc) (cd := cd) (ris := ris) (x := x) (y := y) ⟨by omega, by omega⟩ (by omega) (by omega) (by omega)) (cwV 2 C.2.2.2.2.1 gX6_wouldConflict_X6_isNoBranches rfl rfl rfl (by decide +kernel) ⟨Nat.le_of_ble_eq_true rfl, Nat.le_of_ble_eq_true rfl⟩) [wMM g mm b1 b2 b3 b4 b5 b6 b7 b8 b9 b10 b11 b12 b13 b14 b15 b16 b17 kinds ni cm first second An An Tm Tm bc hds tgs qc qi qo qs cn vals Nw Nw Kw Kw cd] [0] [] [] (fun _ => [wMM g mm b1 b2 b3 b4 b5 b6 b7 b8 b9 b10 b11 b12 b13 b14 b15 b16 b17 kinds ni cm first second An An Tm Tm bc hds tgs qc qi qo qs cn vals Nw Nw Kw Kw 1]) (fun _ => wMM g mm b1 b2 b3 b4 b5 b6 b7 b8 b9 b10 b11 b12 b13 b14 b15 b16 b17 kinds ni cm first second An An Tm Tm bc hds tgs qc qi qo qs cn vals Nw Nw Kw Kw 1 ++ ([])) rfl rfl rfl (fun _ => rfl) (fun _ => rfl) (fun _ => rfl) (fun _ => rfl) rfl rfl rfl rfl rfl (Nat.le_of_ble_eq_true rfl) dX6_wouldConflict_3 ⟨by decide, by decide⟩ (fun r_2 _ h_1 => ?_)
  subst h_1
  refine v_ifz_eq C 11 dX6_wouldConflict_6 (by decide) (fun h => nomatch h) (fun _ => ?_)
  refine v_iconst C (z := 0) dX6_wouldConflict_9 ?_
  exact (v_iret C hr hl () (by decide) (by decide) rfl trivial dX6_wouldConflict_10)
set_option maxHeartbeats 4000000 in
set_option maxRecDepth 100000 in
theorem kX6_wouldConflict_b (l : Launch) (g : vG) {mm b1 b2 b3 b4 b5 b6 b7 b8 b9 b10 b11 b12 b13 b14 b15 b16 b17 : Nat} {kinds tgs first second vals qs : Nat → Int} {hds An qi qo Tm Nw Kw ris : Nat → Nat} {ni bc cm cn qc cd : Nat} {x0 : Nat} {y : Int} (hI : MI vals ris cn kinds tgs first second qs hds An qi qo Tm ni bc cm qc) (hx0 : x0 < bc) (hy : b31 y) (hqy : ¬ (0 ≤ y ∧ y < ((bc : Nat) : Int)))  : mI l g yX6_wouldConflict wsX6_wouldConflict ({ frames := 3, cells := 0, slots := 0, locals := 65 }) [.ref (mm), .int (iI ((x0 : Nat) : Int)), .int (iI (y))] (wMM g mm b1 b2 b3 b4 b5 b6 b7 b8 b9 b10 b11 b12 b13 b14 b15 b16 b17 kinds ni cm first second An An Tm Tm bc hds tgs qc qi qo qs cn vals Nw Nw Kw Kw cd ++ ([])) (fun _ : Unit => wMM g mm b1 b2 b3 b4 b5 b6 b7 b8 b9 b10 b11 b12 b13 b14 b15 b16 b17 kinds ni cm first second An An Tm Tm bc hds tgs qc qi qo qs cn vals Nw Nw Kw Kw 1 ++ ([])) (fun _ _ => True) 0 0 := by
  refine mI_of (cc := cX6_wouldConflict) (maxL := 5) (ret := (some .int)) (own := RX6) (by decide) rfl rfl (Nat.le_of_ble_eq_true rfl) ?_
  intro p e s m args below meth c A C hr hl hin
  obtain ⟨hni, hbc1, hbc, hcm1, hcm, hcn1, hnm, hqc, hhd, htg, hf, hs, hfc, hsc, hAn, hTm, hao, hpal, hqb, hqi, htk, hkd⟩ := id hI
  have hy1 := hy.1
  have hy2 := hy.2
  refine v_aload_n C dX6_wouldConflict_0 rfl 0 rfl ?_
  refine v_iload_n C dX6_wouldConflict_1 rfl 1 rfl ?_
  refine v_iload_n C dX6_wouldConflict_2 rfl 2 rfl ?_
  refine v_invVI C (As := [.int (iI ((x0 : Nat) : Int)), .int (iI (y))]) (q0 := 0) (ci := 6) (kX6_isNoBranches_b l g (mm := mm) (b1 := b1) (b2 := b2) (b3 := b3) (b4 := b4) (b5 := b5) (b6 := b6) (b7 := b7) (b8 := b8) (b9 := b9) (b10 := b10) (b11 := b11) (b12 := b12) (b13 := b13) (b14 := b14) (b15 := b15) (b16 := b16) (b17 := b17) (kinds := kinds) (tgs := tgs) (first := first) (second := second) (vals := vals) (qs := qs) (hds := hds) (An := An) (qi := qi) (qo := qo) (Tm := Tm) (Nw := Nw) (Kw := Kw) (ni := ni) (bc := bc) (cm := cm) (cn := cn) (qc := qc) (cd := cd) (ris := ris) (i0 := x0) (y := y) (by omega) ⟨by omega, by omega⟩ (by omega) (by omega) (by omega)) (cwV 2 C.2.2.2.2.1 gX6_wouldConflict_X6_isNoBranches rfl rfl rfl (by decide +kernel) ⟨Nat.le_of_ble_eq_true rfl, Nat.le_of_ble_eq_true rfl⟩) [wMM g mm b1 b2 b3 b4 b5 b6 b7 b8 b9 b10 b11 b12 b13 b14 b15 b16 b17 kinds ni cm first second An An Tm Tm bc hds tgs qc qi qo qs cn vals Nw Nw Kw Kw cd] [0] [] [] (fun _ => [wMM g mm b1 b2 b3 b4 b5 b6 b7 b8 b9 b10 b11 b12 b13 b14 b15 b16 b17 kinds ni cm first second An An Tm Tm bc hds tgs qc qi qo qs cn vals Nw Nw Kw Kw 1]) (fun _ => wMM g mm b1 b2 b3 b4 b5 b6 b7 b8 b9 b10 b11 b12 b13 b14 b15 b16 b17 kinds ni cm first second An An Tm Tm bc hds tgs qc qi qo qs cn vals Nw Nw Kw Kw 1 ++ ([])) rfl rfl rfl (fun _ => rfl) (fun _ => rfl) (fun _ => rfl) (fun _ => rfl) rfl rfl rfl rfl rfl (Nat.le_of_ble_eq_true rfl) dX6_wouldConflict_3 ⟨by decide, by decide⟩ (fun r_2 _ h_1 => ?_)
  subst h_1
  refine v_ifz_eq C 11 dX6_wouldConflict_6 (by decide) (fun h => nomatch h) (fun _ => ?_)
  refine v_iconst C (z := 0) dX6_wouldConflict_9 ?_
  exact (v_iret C hr hl () (by decide) (by decide) rfl trivial dX6_wouldConflict_10)
theorem npF_lt {N F : Nat → Nat} {n q : Nat} (h : q < n) : npF N n F q = F q := if_pos h
theorem pow_le101 {cn S : Nat} (h : S < 2 ^ cn) (hc : cn ≤ 100) : S < 2 ^ 101 := Nat.lt_of_lt_of_le h (Nat.pow_le_pow_right (by decide) (by omega))
theorem inX6_isAlike_6 : ∀ w ∈ u_ws RX6 TX6 23, w ∈ wsX6_isAlike := by decide +kernel
theorem lkX6_isAlike_40 : Cond.fieldLink RX6 40 "MergeAtelierModel" "heads" "[I" ∈ wsX6_isAlike := by decide +kernel
theorem lkX6_isAlike_76 : Cond.fieldLink RX6 76 "MergeAtelierModel" "items" "I" ∈ wsX6_isAlike := by decide +kernel
theorem lkX6_isAlike_67 : Cond.fieldLink RX6 67 "MergeAtelierModel" "keptLow" "[J" ∈ wsX6_isAlike := by decide +kernel
theorem lkX6_isAlike_61 : Cond.fieldLink RX6 61 "MergeAtelierModel" "newLow" "[J" ∈ wsX6_isAlike := by decide +kernel
theorem lkX6_isAlike_70 : Cond.fieldLink RX6 70 "MergeAtelierModel" "keptHigh" "[J" ∈ wsX6_isAlike := by decide +kernel
theorem lkX6_isAlike_64 : Cond.fieldLink RX6 64 "MergeAtelierModel" "newHigh" "[J" ∈ wsX6_isAlike := by decide +kernel
set_option maxHeartbeats 4000000 in
set_option maxRecDepth 100000 in
theorem kX6_isAlike_ok (l : Launch) (g : vG) {mm b1 b2 b3 b4 b5 b6 b7 b8 b9 b10 b11 b12 b13 b14 b15 b16 b17 : Nat} {kinds tgs first second vals qs : Nat → Int} {hds An qi qo Tm Nw Kw ris : Nat → Nat} {ni bc cm cn qc cd : Nat} {x0 : Nat} {y0 : Nat} (hI : MI vals ris cn kinds tgs first second qs hds An qi qo Tm ni bc cm qc) (hx0 : x0 < bc) (hy0 : y0 < bc)  : mI l g yX6_isAlike wsX6_isAlike ({ frames := 5, cells := 0, slots := 0, locals := 134 }) [.ref (mm), .int (iI ((x0 : Nat) : Int)), .int (iI ((y0 : Nat) : Int))] (wMM g mm b1 b2 b3 b4 b5 b6 b7 b8 b9 b10 b11 b12 b13 b14 b15 b16 b17 kinds ni cm first second An An Tm Tm bc hds tgs qc qi qo qs cn vals Nw Nw Kw Kw cd ++ ([])) (fun _ : Unit => wMM g mm b1 b2 b3 b4 b5 b6 b7 b8 b9 b10 b11 b12 b13 b14 b15 b16 b17 kinds ni cm first second An An Tm Tm bc hds tgs qc qi qo qs cn vals (mgN vals cn qi qo qs An Tm (hds (y0)) (hds (x0)) ni qc (mgN vals cn qi qo qs An Tm (hds (x0)) (hds (y0)) ni qc Nw)) (mgN vals cn qi qo qs An Tm (hds (y0)) (hds (x0)) ni qc (mgN vals cn qi qo qs An Tm (hds (x0)) (hds (y0)) ni qc Nw)) (npF Kw ni (mgN vals cn qi qo qs An Tm (hds (x0)) (hds (y0)) ni qc Nw)) (npF Kw ni (mgN vals cn qi qo qs An Tm (hds (x0)) (hds (y0)) ni qc Nw)) 0 ++ ([])) (fun v _ => v = iI (bZ (decide (fst (fun i => !decide ((mgN vals cn qi qo qs An Tm (hds (x0)) (hds (y0)) ni qc Nw) i = (mgN vals cn qi qo qs An Tm (hds (y0)) (hds (x0)) ni qc (mgN vals cn qi qo qs An Tm (hds (x0)) (hds (y0)) ni qc Nw)) i)) ni = ni)))) 0 0 := by
  refine mI_of (cc := cX6_isAlike) (maxL := 4) (ret := (some .boolean)) (own := RX6) (by decide) rfl rfl (Nat.le_of_ble_eq_true rfl) ?_
  intro p e s m args below meth c A C hr hl hin
  obtain ⟨hni, hbc1, hbc, hcm1, hcm, hcn1, hnm, hqc, hhd, htg, hf, hs, hfc, hsc, hAn, hTm, hao, hpal, hqb, hqi, htk, hkd⟩ := id hI
  have hcn9 : cn ≤ 100 := Nat.le_trans hnm hcm
  refine v_aload_n C dX6_isAlike_0 rfl 0 rfl ?_
  refine v_iload_n C dX6_isAlike_1 rfl 1 rfl ?_
  refine v_iload_n C dX6_isAlike_2 rfl 2 rfl ?_
  refine v_invVI C (As := [.int (iI ((x0 : Nat) : Int)), .int (iI ((y0 : Nat) : Int))]) (q0 := 0) (ci := 6) (kX6_isNoBranches_in l g (mm := mm) (b1 := b1) (b2 := b2) (b3 := b3) (b4 := b4) (b5 := b5) (b6 := b6) (b7 := b7) (b8 := b8) (b9 := b9) (b10 := b10) (b11 := b11) (b12 := b12) (b13 := b13) (b14 := b14) (b15 := b15) (b16 := b16) (b17 := b17) (kinds := kinds) (tgs := tgs) (first := first) (second := second) (vals := vals) (qs := qs) (hds := hds) (An := An) (qi := qi) (qo := qo) (Tm := Tm) (Nw := Nw) (Kw := Kw) (ni := ni) (bc := bc) (cm := cm) (cn := cn) (qc := qc) (cd := cd) (ris := ris) (i0 := x0) (j0 := y0) (by omega) (by omega) (by omega) (by omega)) (cwV 2 C.2.2.2.2.1 gX6_isAlike_X6_isNoBranches rfl rfl rfl (by decide +kernel) ⟨Nat.le_of_ble_eq_true rfl, Nat.le_of_ble_eq_true rfl⟩) [wMM g mm b1 b2 b3 b4 b5 b6 b7 b8 b9 b10 b11 b12 b13 b14 b15 b16 b17 kinds ni cm first second An An Tm Tm bc hds tgs qc qi qo qs cn vals Nw Nw Kw Kw cd] [0] [] [] (fun _ => [wMM g mm b1 b2 b3 b4 b5 b6 b7 b8 b9 b10 b11 b12 b13 b14 b15 b16 b17 kinds ni cm first second An An Tm Tm bc hds tgs qc qi qo qs cn vals Nw Nw Kw Kw 0]) (fun _ => wMM g mm b1 b2 b3 b4 b5 b6 b7 b8 b9 b10 b11 b12 b13 b14 b15 b16 b17 kinds ni cm first second An An Tm Tm bc hds tgs qc qi qo qs cn vals Nw Nw Kw Kw 0 ++ ([])) rfl rfl rfl (fun _ => rfl) (fun _ => rfl) (fun _ => rfl) (fun _ => rfl) rfl rfl rfl rfl rfl (Nat.le_of_ble_eq_true rfl) dX6_isAlike_3 ⟨by decide, by decide⟩ (fun r_2 _ h_1 => ?_)
  subst h_1
  refine v_ifz_eq C 11 dX6_isAlike_6 (by decide) (fun _ => ?_) (fun h => nomatch h) 
  have hhx := hhd x0
  have hhy := hhd y0
  have hno1 : NOK cn ni (mgN vals cn qi qo qs An Tm (hds (x0)) (hds (y0)) ni qc Nw) := mgN_ok htk hhx hhy hqi
  have hno2 : NOK cn ni (mgN vals cn qi qo qs An Tm (hds (y0)) (hds (x0)) ni qc (mgN vals cn qi qo qs An Tm (hds (x0)) (hds (y0)) ni qc Nw)) := mgN_ok htk hhy hhx hqi
  refine v_aload_n C dX6_isAlike_11 rfl 0 rfl ?_
  refine v_aload_n C dX6_isAlike_12 rfl 0 rfl ?_
  refine v_get C 0 (kf := 10) rfl rfl (by decide) inX6_isAlike_6 lkX6_isAlike_40 rfl rfl dX6_isAlike_13 ?_
  refine v_iload_n C dX6_isAlike_16 rfl 1 rfl ?_
  refine v_ialdn C 8 (x0) rfl rfl (by omega) (by decide) dX6_isAlike_17 ?_
  refine v_aload_n C dX6_isAlike_18 rfl 0 rfl ?_
  refine v_get C 0 (kf := 10) rfl rfl (by decide) inX6_isAlike_6 lkX6_isAlike_40 rfl rfl dX6_isAlike_19 ?_
  refine v_iload_n C dX6_isAlike_22 rfl 2 rfl ?_
  refine v_ialdn C 8 (y0) rfl rfl (by omega) (by decide) dX6_isAlike_23 ?_
  refine v_invVV C (As := [.int (iI ((hds (x0) : Nat) : Int)), .int (iI ((hds (y0) : Nat) : Int))]) (q0 := 0) (ci := 6) (kX6_merges l g (mm := mm) (b1 := b1) (b2 := b2) (b3 := b3) (b4 := b4) (b5 := b5) (b6 := b6) (b7 := b7) (b8 := b8) (b9 := b9) (b10 := b10) (b11 := b11) (b12 := b12) (b13 := b13) (b14 := b14) (b15 := b15) (b16 := b16) (b17 := b17) (kinds := kinds) (tgs := tgs) (first := first) (second := second) (vals := vals) (qs := qs) (hds := hds) (An := An) (qi := qi) (qo := qo) (Tm := Tm) (Nw := Nw) (Kw := Kw) (ni := ni) (bc := bc) (cm := cm) (cn := cn) (qc := qc) (cd := 0) (ris := ris) (f0 := hds (x0)) (s0 := hds (y0)) hI (by omega) (by omega)) (cwV 2 C.2.2.2.2.1 gX6_isAlike_X6_merges rfl rfl rfl (by decide +kernel) ⟨Nat.le_of_ble_eq_true rfl, Nat.le_of_ble_eq_true rfl⟩) [wMM g mm b1 b2 b3 b4 b5 b6 b7 b8 b9 b10 b11 b12 b13 b14 b15 b16 b17 kinds ni cm first second An An Tm Tm bc hds tgs qc qi qo qs cn vals Nw Nw Kw Kw 0] [0] [] [] (fun _ => [wMM g mm b1 b2 b3 b4 b5 b6 b7 b8 b9 b10 b11 b12 b13 b14 b15 b16 b17 kinds ni cm first second An An Tm Tm bc hds tgs qc qi qo qs cn vals (mgN vals cn qi qo qs An Tm (hds (x0)) (hds (y0)) ni qc Nw) (mgN vals cn qi qo qs An Tm (hds (x0)) (hds (y0)) ni qc Nw) Kw Kw 0]) (fun _ => wMM g mm b1 b2 b3 b4 b5 b6 b7 b8 b9 b10 b11 b12 b13 b14 b15 b16 b17 kinds ni cm first second An An Tm Tm bc hds tgs qc qi qo qs cn vals (mgN vals cn qi qo qs An Tm (hds (x0)) (hds (y0)) ni qc Nw) (mgN vals cn qi qo qs An Tm (hds (x0)) (hds (y0)) ni qc Nw) Kw Kw 0 ++ ([])) rfl rfl rfl (fun _ => rfl) (fun _ => rfl) (fun _ => rfl) (fun _ => rfl) rfl rfl rfl rfl rfl (Nat.le_of_ble_eq_true rfl) dX6_isAlike_24 ⟨by decide, by decide⟩ (fun _ h_3 => ?_)
  refine v_iconst C (z := 0) dX6_isAlike_27 ?_
  refine v_istore_n C [(3, .int (iI (0))), (0, .ref (mm)), (1, .int (iI ((x0 : Nat) : Int))), (2, .int (iI ((y0 : Nat) : Int)))] dX6_isAlike_28 rfl (by decide) rfl ?_
  refine v_lv (lv' := [(0, .ref (mm)), (1, .int (iI ((x0 : Nat) : Int))), (2, .int (iI ((y0 : Nat) : Int))), (3, .int (iI ((0 : Nat) : Int)))]) [1, 2, 3, 0] rfl ?_
  refine v_ws (ws' := wMM g mm b1 b2 b3 b4 b5 b6 b7 b8 b9 b10 b11 b12 b13 b14 b15 b16 b17 kinds ni cm first second An An Tm Tm bc hds tgs qc qi qo qs cn vals (mgN vals cn qi qo qs An Tm (hds (x0)) (hds (y0)) ni qc Nw) (mgN vals cn qi qo qs An Tm (hds (x0)) (hds (y0)) ni qc Nw) (npF Kw 0 (mgN vals cn qi qo qs An Tm (hds (x0)) (hds (y0)) ni qc Nw)) (npF Kw 0 (mgN vals cn qi qo qs An Tm (hds (x0)) (hds (y0)) ni qc Nw)) 0 ++ ([])) (by rw [npF_0]) ?_
  refine v_lp1 (X := Nat) (fun i => wMM g mm b1 b2 b3 b4 b5 b6 b7 b8 b9 b10 b11 b12 b13 b14 b15 b16 b17 kinds ni cm first second An An Tm Tm bc hds tgs qc qi qo qs cn vals (mgN vals cn qi qo qs An Tm (hds (x0)) (hds (y0)) ni qc Nw) (mgN vals cn qi qo qs An Tm (hds (x0)) (hds (y0)) ni qc Nw) (npF Kw i (mgN vals cn qi qo qs An Tm (hds (x0)) (hds (y0)) ni qc Nw)) (npF Kw i (mgN vals cn qi qo qs An Tm (hds (x0)) (hds (y0)) ni qc Nw)) 0 ++ ([])) (fun i => [(0, .ref (mm)), (1, .int (iI ((x0 : Nat) : Int))), (2, .int (iI ((y0 : Nat) : Int))), (3, .int (iI ((i : Nat) : Int)))]) (fun i => ni - i) (fun i => i ≤ ni) ?_ (0) (Nat.zero_le _)
  intro i hJ29 ih29
  try dsimp only at hJ29 ⊢
  refine v_iload_n C dX6_isAlike_29 rfl 3 rfl ?_
  refine v_aload_n C dX6_isAlike_30 rfl 0 rfl ?_
  refine v_get C 0 (kf := 0) rfl rfl (by decide) inX6_isAlike_6 lkX6_isAlike_76 rfl rfl dX6_isAlike_31 ?_
  refine v_icmp_ge C 67 dX6_isAlike_34 (by decide) ⟨by omega, by omega⟩ ⟨by omega, by omega⟩ (fun c_5 => ?_) (fun c_5 => ?_)
  ·
    obtain rfl : ni = i := by omega
    refine v_aload_n C dX6_isAlike_67 rfl 0 rfl ?_
    refine v_aload_n C dX6_isAlike_68 rfl 0 rfl ?_
    refine v_get C 0 (kf := 10) rfl rfl (by decide) inX6_isAlike_6 lkX6_isAlike_40 rfl rfl dX6_isAlike_69 ?_
    refine v_iload_n C dX6_isAlike_72 rfl 2 rfl ?_
    refine v_ialdn C 8 (y0) rfl rfl (by omega) (by decide) dX6_isAlike_73 ?_
    refine v_aload_n C dX6_isAlike_74 rfl 0 rfl ?_
    refine v_get C 0 (kf := 10) rfl rfl (by decide) inX6_isAlike_6 lkX6_isAlike_40 rfl rfl dX6_isAlike_75 ?_
    refine v_iload_n C dX6_isAlike_78 rfl 1 rfl ?_
    refine v_ialdn C 8 (x0) rfl rfl (by omega) (by decide) dX6_isAlike_79 ?_
    refine v_invVV C (As := [.int (iI ((hds (y0) : Nat) : Int)), .int (iI ((hds (x0) : Nat) : Int))]) (q0 := 0) (ci := 6) (kX6_merges l g (mm := mm) (b1 := b1) (b2 := b2) (b3 := b3) (b4 := b4) (b5 := b5) (b6 := b6) (b7 := b7) (b8 := b8) (b9 := b9) (b10 := b10) (b11 := b11) (b12 := b12) (b13 := b13) (b14 := b14) (b15 := b15) (b16 := b16) (b17 := b17) (kinds := kinds) (tgs := tgs) (first := first) (second := second) (vals := vals) (qs := qs) (hds := hds) (An := An) (qi := qi) (qo := qo) (Tm := Tm) (Nw := mgN vals cn qi qo qs An Tm (hds (x0)) (hds (y0)) ni qc Nw) (Kw := npF Kw ni (mgN vals cn qi qo qs An Tm (hds (x0)) (hds (y0)) ni qc Nw)) (ni := ni) (bc := bc) (cm := cm) (cn := cn) (qc := qc) (cd := 0) (ris := ris) (f0 := hds (y0)) (s0 := hds (x0)) hI (by omega) (by omega)) (cwV 2 C.2.2.2.2.1 gX6_isAlike_X6_merges rfl rfl rfl (by decide +kernel) ⟨Nat.le_of_ble_eq_true rfl, Nat.le_of_ble_eq_true rfl⟩) [wMM g mm b1 b2 b3 b4 b5 b6 b7 b8 b9 b10 b11 b12 b13 b14 b15 b16 b17 kinds ni cm first second An An Tm Tm bc hds tgs qc qi qo qs cn vals (mgN vals cn qi qo qs An Tm (hds (x0)) (hds (y0)) ni qc Nw) (mgN vals cn qi qo qs An Tm (hds (x0)) (hds (y0)) ni qc Nw) (npF Kw ni (mgN vals cn qi qo qs An Tm (hds (x0)) (hds (y0)) ni qc Nw)) (npF Kw ni (mgN vals cn qi qo qs An Tm (hds (x0)) (hds (y0)) ni qc Nw)) 0] [0] [] [] (fun _ => [wMM g mm b1 b2 b3 b4 b5 b6 b7 b8 b9 b10 b11 b12 b13 b14 b15 b16 b17 kinds ni cm first second An An Tm Tm bc hds tgs qc qi qo qs cn vals (mgN vals cn qi qo qs An Tm (hds (y0)) (hds (x0)) ni qc (mgN vals cn qi qo qs An Tm (hds (x0)) (hds (y0)) ni qc Nw)) (mgN vals cn qi qo qs An Tm (hds (y0)) (hds (x0)) ni qc (mgN vals cn qi qo qs An Tm (hds (x0)) (hds (y0)) ni qc Nw)) (npF Kw ni (mgN vals cn qi qo qs An Tm (hds (x0)) (hds (y0)) ni qc Nw)) (npF Kw ni (mgN vals cn qi qo qs An Tm (hds (x0)) (hds (y0)) ni qc Nw)) 0]) (fun _ => wMM g mm b1 b2 b3 b4 b5 b6 b7 b8 b9 b10 b11 b12 b13 b14 b15 b16 b17 kinds ni cm first second An An Tm Tm bc hds tgs qc qi qo qs cn vals (mgN vals cn qi qo qs An Tm (hds (y0)) (hds (x0)) ni qc (mgN vals cn qi qo qs An Tm (hds (x0)) (hds (y0)) ni qc Nw)) (mgN vals cn qi qo qs An Tm (hds (y0)) (hds (x0)) ni qc (mgN vals cn qi qo qs An Tm (hds (x0)) (hds (y0)) ni qc Nw)) (npF Kw ni (mgN vals cn qi qo qs An Tm (hds (x0)) (hds (y0)) ni qc Nw)) (npF Kw ni (mgN vals cn qi qo qs An Tm (hds (x0)) (hds (y0)) ni qc Nw)) 0 ++ ([])) rfl rfl rfl (fun _ => rfl) (fun _ => rfl) (fun _ => rfl) (fun _ => rfl) rfl rfl rfl rfl rfl (Nat.le_of_ble_eq_true rfl) dX6_isAlike_80 ⟨by decide, by decide⟩ (fun _ h_6 => ?_)
    refine v_iconst C (z := 0) dX6_isAlike_83 ?_
    refine v_istore_n C [(3, .int (iI (0))), (0, .ref (mm)), (1, .int (iI ((x0 : Nat) : Int))), (2, .int (iI ((y0 : Nat) : Int)))] dX6_isAlike_84 rfl (by decide) rfl ?_
    refine v_lv (lv' := [(0, .ref (mm)), (1, .int (iI ((x0 : Nat) : Int))), (2, .int (iI ((y0 : Nat) : Int))), (3, .int (iI ((0 : Nat) : Int)))]) [1, 2, 3, 0] rfl ?_
    refine v_ws (ws' := wMM g mm b1 b2 b3 b4 b5 b6 b7 b8 b9 b10 b11 b12 b13 b14 b15 b16 b17 kinds ni cm first second An An Tm Tm bc hds tgs qc qi qo qs cn vals (mgN vals cn qi qo qs An Tm (hds (y0)) (hds (x0)) ni qc (mgN vals cn qi qo qs An Tm (hds (x0)) (hds (y0)) ni qc Nw)) (mgN vals cn qi qo qs An Tm (hds (y0)) (hds (x0)) ni qc (mgN vals cn qi qo qs An Tm (hds (x0)) (hds (y0)) ni qc Nw)) (npF Kw ni (mgN vals cn qi qo qs An Tm (hds (x0)) (hds (y0)) ni qc Nw)) (npF Kw ni (mgN vals cn qi qo qs An Tm (hds (x0)) (hds (y0)) ni qc Nw)) 0 ++ ([])) rfl ?_
    refine v_lp1 (X := Nat) (fun i => wMM g mm b1 b2 b3 b4 b5 b6 b7 b8 b9 b10 b11 b12 b13 b14 b15 b16 b17 kinds ni cm first second An An Tm Tm bc hds tgs qc qi qo qs cn vals (mgN vals cn qi qo qs An Tm (hds (y0)) (hds (x0)) ni qc (mgN vals cn qi qo qs An Tm (hds (x0)) (hds (y0)) ni qc Nw)) (mgN vals cn qi qo qs An Tm (hds (y0)) (hds (x0)) ni qc (mgN vals cn qi qo qs An Tm (hds (x0)) (hds (y0)) ni qc Nw)) (npF Kw ni (mgN vals cn qi qo qs An Tm (hds (x0)) (hds (y0)) ni qc Nw)) (npF Kw ni (mgN vals cn qi qo qs An Tm (hds (x0)) (hds (y0)) ni qc Nw)) 0 ++ ([])) (fun i => [(0, .ref (mm)), (1, .int (iI ((x0 : Nat) : Int))), (2, .int (iI ((y0 : Nat) : Int))), (3, .int (iI ((i : Nat) : Int)))]) (fun i => ni - i) (fun i => i ≤ ni ∧ fst (fun i => !decide ((mgN vals cn qi qo qs An Tm (hds (x0)) (hds (y0)) ni qc Nw) i = (mgN vals cn qi qo qs An Tm (hds (y0)) (hds (x0)) ni qc (mgN vals cn qi qo qs An Tm (hds (x0)) (hds (y0)) ni qc Nw)) i)) i = i) ?_ (0) ⟨Nat.zero_le _, rfl⟩
    intro i hJ85 ih85
    try dsimp only at hJ85 ⊢
    refine v_iload_n C dX6_isAlike_85 rfl 3 rfl ?_
    refine v_aload_n C dX6_isAlike_86 rfl 0 rfl ?_
    refine v_get C 0 (kf := 0) rfl rfl (by decide) inX6_isAlike_6 lkX6_isAlike_76 rfl rfl dX6_isAlike_87 ?_
    refine v_icmp_ge C 133 dX6_isAlike_90 (by decide) ⟨by omega, by omega⟩ ⟨by omega, by omega⟩ (fun c_8 => ?_) (fun c_8 => ?_)
    ·
      obtain rfl : ni = i := by omega
      refine v_iconst C (z := 1) dX6_isAlike_133 ?_
      exact (v_zret C hr hl () rfl (by decide) (by decide) rfl (bz_dt hJ85.2) dX6_isAlike_134)
    ·
      refine v_aload_n C dX6_isAlike_93 rfl 0 rfl ?_
      refine v_get C 0 (kf := 20) rfl rfl (by decide) inX6_isAlike_6 lkX6_isAlike_67 rfl rfl dX6_isAlike_94 ?_
      refine v_iload_n C dX6_isAlike_97 rfl 3 rfl ?_
      refine v_lald C 16 (i) rfl rfl (by omega) (by decide) dX6_isAlike_98 ?_
      refine v_aload_n C dX6_isAlike_99 rfl 0 rfl ?_
      refine v_get C 0 (kf := 18) rfl rfl (by decide) inX6_isAlike_6 lkX6_isAlike_61 rfl rfl dX6_isAlike_100 ?_
      refine v_iload_n C dX6_isAlike_103 rfl 3 rfl ?_
      refine v_lald C 14 (i) rfl rfl (by omega) (by decide) dX6_isAlike_104 ?_
      refine v_lcmp C dX6_isAlike_105 ?_
      refine v_ifl_ne C 125 dX6_isAlike_106 (by decide) (fun c_9 => ?_) (fun c_9 => ?_)
      ·
        have hne : ¬ (mgN vals cn qi qo qs An Tm (hds (x0)) (hds (y0)) ni qc Nw) i = (mgN vals cn qi qo qs An Tm (hds (y0)) (hds (x0)) ni qc (mgN vals cn qi qo qs An Tm (hds (x0)) (hds (y0)) ni qc Nw)) i := fun x => c_9 (by show loM (npF Kw ni (mgN vals cn qi qo qs An Tm (hds (x0)) (hds (y0)) ni qc Nw) i) = loM ((mgN vals cn qi qo qs An Tm (hds (y0)) (hds (x0)) ni qc (mgN vals cn qi qo qs An Tm (hds (x0)) (hds (y0)) ni qc Nw)) i); rw [npF_lt (by omega), x])
        have hfh := fst_hit hJ85.2 (show (!decide ((mgN vals cn qi qo qs An Tm (hds (x0)) (hds (y0)) ni qc Nw) i = (mgN vals cn qi qo qs An Tm (hds (y0)) (hds (x0)) ni qc (mgN vals cn qi qo qs An Tm (hds (x0)) (hds (y0)) ni qc Nw)) i)) = true by rw [decide_eq_false hne]; rfl) ni (by omega)
        refine v_iconst C (z := 0) dX6_isAlike_125 ?_
        exact (v_zret C hr hl () rfl (by decide) (by decide) rfl (bz_df (by rw [hfh]; omega)) dX6_isAlike_126)
      ·
        refine v_aload_n C dX6_isAlike_109 rfl 0 rfl ?_
        refine v_get C 0 (kf := 21) rfl rfl (by decide) inX6_isAlike_6 lkX6_isAlike_70 rfl rfl dX6_isAlike_110 ?_
        refine v_iload_n C dX6_isAlike_113 rfl 3 rfl ?_
        refine v_lald C 17 (i) rfl rfl (by omega) (by decide) dX6_isAlike_114 ?_
        refine v_aload_n C dX6_isAlike_115 rfl 0 rfl ?_
        refine v_get C 0 (kf := 19) rfl rfl (by decide) inX6_isAlike_6 lkX6_isAlike_64 rfl rfl dX6_isAlike_116 ?_
        refine v_iload_n C dX6_isAlike_119 rfl 3 rfl ?_
        refine v_lald C 15 (i) rfl rfl (by omega) (by decide) dX6_isAlike_120 ?_
        refine v_lcmp C dX6_isAlike_121 ?_
        refine v_ifl_eq C 127 dX6_isAlike_122 (by decide) (fun c_10 => ?_) (fun c_10 => ?_)
        ·
          refine v_iinc C [(3, .int (iI (((i : Nat) : Int) + 1))), (0, .ref (mm)), (1, .int (iI ((x0 : Nat) : Int))), (2, .int (iI ((y0 : Nat) : Int)))] dX6_isAlike_127 3 rfl (by decide) rfl ?_
          rw [show ((i : Nat) : Int) + 1 = ((i + 1 : Nat) : Int) from rfl]
          refine v_goto C 85 dX6_isAlike_130 (by decide) ?_
          refine v_lv (lv' := [(0, .ref (mm)), (1, .int (iI ((x0 : Nat) : Int))), (2, .int (iI ((y0 : Nat) : Int))), (3, .int (iI ((i + 1 : Nat) : Int)))]) [1, 2, 3, 0] rfl ?_
          refine v_ws (ws' := wMM g mm b1 b2 b3 b4 b5 b6 b7 b8 b9 b10 b11 b12 b13 b14 b15 b16 b17 kinds ni cm first second An An Tm Tm bc hds tgs qc qi qo qs cn vals (mgN vals cn qi qo qs An Tm (hds (y0)) (hds (x0)) ni qc (mgN vals cn qi qo qs An Tm (hds (x0)) (hds (y0)) ni qc Nw)) (mgN vals cn qi qo qs An Tm (hds (y0)) (hds (x0)) ni qc (mgN vals cn qi qo qs An Tm (hds (x0)) (hds (y0)) ni qc Nw)) (npF Kw ni (mgN vals cn qi qo qs An Tm (hds (x0)) (hds (y0)) ni qc Nw)) (npF Kw ni (mgN vals cn qi qo qs An Tm (hds (x0)) (hds (y0)) ni qc Nw)) 0 ++ ([])) rfl ?_
          exact ih85 (i + 1) ⟨by omega, fst_miss hJ85.2 (by show (!decide ((mgN vals cn qi qo qs An Tm (hds (x0)) (hds (y0)) ni qc Nw) i = (mgN vals cn qi qo qs An Tm (hds (y0)) (hds (x0)) ni qc (mgN vals cn qi qo qs An Tm (hds (x0)) (hds (y0)) ni qc Nw)) i)) = false; rw [decide_eq_true (show (mgN vals cn qi qo qs An Tm (hds (x0)) (hds (y0)) ni qc Nw) i = (mgN vals cn qi qo qs An Tm (hds (y0)) (hds (x0)) ni qc (mgN vals cn qi qo qs An Tm (hds (x0)) (hds (y0)) ni qc Nw)) i from by have h9 := m_eq (pow_le101 (by rw [npF_lt (by omega)]; exact (hno1 i (by omega)).2) hcn9) (pow_le101 (hno2 i (by omega)).2 hcn9) c_9 c_10; rw [npF_lt (by omega)] at h9; exact h9)]; rfl)⟩ (by omega)
        ·
          have hne : ¬ (mgN vals cn qi qo qs An Tm (hds (x0)) (hds (y0)) ni qc Nw) i = (mgN vals cn qi qo qs An Tm (hds (y0)) (hds (x0)) ni qc (mgN vals cn qi qo qs An Tm (hds (x0)) (hds (y0)) ni qc Nw)) i := fun x => c_10 (by show hiM (npF Kw ni (mgN vals cn qi qo qs An Tm (hds (x0)) (hds (y0)) ni qc Nw) i) = hiM ((mgN vals cn qi qo qs An Tm (hds (y0)) (hds (x0)) ni qc (mgN vals cn qi qo qs An Tm (hds (x0)) (hds (y0)) ni qc Nw)) i); rw [npF_lt (by omega), x])
          have hfh := fst_hit hJ85.2 (show (!decide ((mgN vals cn qi qo qs An Tm (hds (x0)) (hds (y0)) ni qc Nw) i = (mgN vals cn qi qo qs An Tm (hds (y0)) (hds (x0)) ni qc (mgN vals cn qi qo qs An Tm (hds (x0)) (hds (y0)) ni qc Nw)) i)) = true by rw [decide_eq_false hne]; rfl) ni (by omega)
          refine v_iconst C (z := 0) dX6_isAlike_125 ?_
          exact (v_zret C hr hl () rfl (by decide) (by decide) rfl (bz_df (by rw [hfh]; omega)) dX6_isAlike_126)
  ·
    refine v_aload_n C dX6_isAlike_37 rfl 0 rfl ?_
    refine v_get C 0 (kf := 20) rfl rfl (by decide) inX6_isAlike_6 lkX6_isAlike_67 rfl rfl dX6_isAlike_38 ?_
    refine v_iload_n C dX6_isAlike_41 rfl 3 rfl ?_
    refine v_aload_n C dX6_isAlike_42 rfl 0 rfl ?_
    refine v_get C 0 (kf := 18) rfl rfl (by decide) inX6_isAlike_6 lkX6_isAlike_61 rfl rfl dX6_isAlike_43 ?_
    refine v_iload_n C dX6_isAlike_46 rfl 3 rfl ?_
    refine v_lald C 14 (i) rfl rfl (by omega) (by decide) dX6_isAlike_47 ?_
    refine v_last C 16 (i) (xml (updN (npF Kw i (mgN vals cn qi qo qs An Tm (hds (x0)) (hds (y0)) ni qc Nw)) (i) ((mgN vals cn qi qo qs An Tm (hds (x0)) (hds (y0)) ni qc Nw) (i)))) (wMM g mm b1 b2 b3 b4 b5 b6 b7 b8 b9 b10 b11 b12 b13 b14 b15 b16 b17 kinds ni cm first second An An Tm Tm bc hds tgs qc qi qo qs cn vals (mgN vals cn qi qo qs An Tm (hds (x0)) (hds (y0)) ni qc Nw) (mgN vals cn qi qo qs An Tm (hds (x0)) (hds (y0)) ni qc Nw) (updN (npF Kw i (mgN vals cn qi qo qs An Tm (hds (x0)) (hds (y0)) ni qc Nw)) (i) ((mgN vals cn qi qo qs An Tm (hds (x0)) (hds (y0)) ni qc Nw) (i))) (npF Kw i (mgN vals cn qi qo qs An Tm (hds (x0)) (hds (y0)) ni qc Nw)) 0 ++ ([])) rfl rfl (by omega) (by decide) dX6_isAlike_48 (xml_upd _ _ _) rfl ?_
    refine v_aload_n C dX6_isAlike_49 rfl 0 rfl ?_
    refine v_get C 0 (kf := 21) rfl rfl (by decide) inX6_isAlike_6 lkX6_isAlike_70 rfl rfl dX6_isAlike_50 ?_
    refine v_iload_n C dX6_isAlike_53 rfl 3 rfl ?_
    refine v_aload_n C dX6_isAlike_54 rfl 0 rfl ?_
    refine v_get C 0 (kf := 19) rfl rfl (by decide) inX6_isAlike_6 lkX6_isAlike_64 rfl rfl dX6_isAlike_55 ?_
    refine v_iload_n C dX6_isAlike_58 rfl 3 rfl ?_
    refine v_lald C 15 (i) rfl rfl (by omega) (by decide) dX6_isAlike_59 ?_
    refine v_last C 17 (i) (xmh (updN (npF Kw i (mgN vals cn qi qo qs An Tm (hds (x0)) (hds (y0)) ni qc Nw)) (i) ((mgN vals cn qi qo qs An Tm (hds (x0)) (hds (y0)) ni qc Nw) (i)))) (wMM g mm b1 b2 b3 b4 b5 b6 b7 b8 b9 b10 b11 b12 b13 b14 b15 b16 b17 kinds ni cm first second An An Tm Tm bc hds tgs qc qi qo qs cn vals (mgN vals cn qi qo qs An Tm (hds (x0)) (hds (y0)) ni qc Nw) (mgN vals cn qi qo qs An Tm (hds (x0)) (hds (y0)) ni qc Nw) (updN (npF Kw i (mgN vals cn qi qo qs An Tm (hds (x0)) (hds (y0)) ni qc Nw)) (i) ((mgN vals cn qi qo qs An Tm (hds (x0)) (hds (y0)) ni qc Nw) (i))) (updN (npF Kw i (mgN vals cn qi qo qs An Tm (hds (x0)) (hds (y0)) ni qc Nw)) (i) ((mgN vals cn qi qo qs An Tm (hds (x0)) (hds (y0)) ni qc Nw) (i))) 0 ++ ([])) rfl rfl (by omega) (by decide) dX6_isAlike_60 (xmh_upd _ _ _) rfl ?_
    refine v_iinc C [(3, .int (iI (((i : Nat) : Int) + 1))), (0, .ref (mm)), (1, .int (iI ((x0 : Nat) : Int))), (2, .int (iI ((y0 : Nat) : Int)))] dX6_isAlike_61 3 rfl (by decide) rfl ?_
    rw [show ((i : Nat) : Int) + 1 = ((i + 1 : Nat) : Int) from rfl]
    refine v_goto C 29 dX6_isAlike_64 (by decide) ?_
    refine v_lv (lv' := [(0, .ref (mm)), (1, .int (iI ((x0 : Nat) : Int))), (2, .int (iI ((y0 : Nat) : Int))), (3, .int (iI ((i + 1 : Nat) : Int)))]) [1, 2, 3, 0] rfl ?_
    refine v_ws (ws' := wMM g mm b1 b2 b3 b4 b5 b6 b7 b8 b9 b10 b11 b12 b13 b14 b15 b16 b17 kinds ni cm first second An An Tm Tm bc hds tgs qc qi qo qs cn vals (mgN vals cn qi qo qs An Tm (hds (x0)) (hds (y0)) ni qc Nw) (mgN vals cn qi qo qs An Tm (hds (x0)) (hds (y0)) ni qc Nw) (npF Kw (i + 1) (mgN vals cn qi qo qs An Tm (hds (x0)) (hds (y0)) ni qc Nw)) (npF Kw (i + 1) (mgN vals cn qi qo qs An Tm (hds (x0)) (hds (y0)) ni qc Nw)) 0 ++ ([])) (by rw [np_step rfl]) ?_
    exact ih29 (i + 1) (by omega) (by omega)
set_option maxHeartbeats 4000000 in
set_option maxRecDepth 100000 in
theorem kX6_isAlike_a (l : Launch) (g : vG) {mm b1 b2 b3 b4 b5 b6 b7 b8 b9 b10 b11 b12 b13 b14 b15 b16 b17 : Nat} {kinds tgs first second vals qs : Nat → Int} {hds An qi qo Tm Nw Kw ris : Nat → Nat} {ni bc cm cn qc cd : Nat} {x : Int} {y : Int} (hI : MI vals ris cn kinds tgs first second qs hds An qi qo Tm ni bc cm qc) (hx : b31 x) (hqx : ¬ (0 ≤ x ∧ x < ((bc : Nat) : Int))) (hy : b31 y)  : mI l g yX6_isAlike wsX6_isAlike ({ frames := 3, cells := 0, slots := 0, locals := 65 }) [.ref (mm), .int (iI (x)), .int (iI (y))] (wMM g mm b1 b2 b3 b4 b5 b6 b7 b8 b9 b10 b11 b12 b13 b14 b15 b16 b17 kinds ni cm first second An An Tm Tm bc hds tgs qc qi qo qs cn vals Nw Nw Kw Kw cd ++ ([])) (fun _ : Unit => wMM g mm b1 b2 b3 b4 b5 b6 b7 b8 b9 b10 b11 b12 b13 b14 b15 b16 b17 kinds ni cm first second An An Tm Tm bc hds tgs qc qi qo qs cn vals Nw Nw Kw Kw 1 ++ ([])) (fun _ _ => True) 0 0 := by
  refine mI_of (cc := cX6_isAlike) (maxL := 4) (ret := (some .boolean)) (own := RX6) (by decide) rfl rfl (Nat.le_of_ble_eq_true rfl) ?_
  intro p e s m args below meth c A C hr hl hin
  obtain ⟨hni, hbc1, hbc, hcm1, hcm, hcn1, hnm, hqc, hhd, htg, hf, hs, hfc, hsc, hAn, hTm, hao, hpal, hqb, hqi, htk, hkd⟩ := id hI
  have hx1 := hx.1
  have hx2 := hx.2
  have hy1 := hy.1
  have hy2 := hy.2
  refine v_aload_n C dX6_isAlike_0 rfl 0 rfl ?_
  refine v_iload_n C dX6_isAlike_1 rfl 1 rfl ?_
  refine v_iload_n C dX6_isAlike_2 rfl 2 rfl ?_
  refine v_invVI C (As := [.int (iI (x)), .int (iI (y))]) (q0 := 0) (ci := 6) (kX6_isNoBranches_a l g (mm := mm) (b1 := b1) (b2 := b2) (b3 := b3) (b4 := b4) (b5 := b5) (b6 := b6) (b7 := b7) (b8 := b8) (b9 := b9) (b10 := b10) (b11 := b11) (b12 := b12) (b13 := b13) (b14 := b14) (b15 := b15) (b16 := b16) (b17 := b17) (kinds := kinds) (tgs := tgs) (first := first) (second := second) (vals := vals) (qs := qs) (hds := hds) (An := An) (qi := qi) (qo := qo) (Tm := Tm) (Nw := Nw) (Kw := Kw) (ni := ni) (bc := bc) (cm := cm) (cn := cn) (qc := qc) (cd := cd) (ris := ris) (x := x) (y := y) ⟨by omega, by omega⟩ (by omega) (by omega) (by omega)) (cwV 2 C.2.2.2.2.1 gX6_isAlike_X6_isNoBranches rfl rfl rfl (by decide +kernel) ⟨Nat.le_of_ble_eq_true rfl, Nat.le_of_ble_eq_true rfl⟩) [wMM g mm b1 b2 b3 b4 b5 b6 b7 b8 b9 b10 b11 b12 b13 b14 b15 b16 b17 kinds ni cm first second An An Tm Tm bc hds tgs qc qi qo qs cn vals Nw Nw Kw Kw cd] [0] [] [] (fun _ => [wMM g mm b1 b2 b3 b4 b5 b6 b7 b8 b9 b10 b11 b12 b13 b14 b15 b16 b17 kinds ni cm first second An An Tm Tm bc hds tgs qc qi qo qs cn vals Nw Nw Kw Kw 1]) (fun _ => wMM g mm b1 b2 b3 b4 b5 b6 b7 b8 b9 b10 b11 b12 b13 b14 b15 b16 b17 kinds ni cm first second An An Tm Tm bc hds tgs qc qi qo qs cn vals Nw Nw Kw Kw 1 ++ ([])) rfl rfl rfl (fun _ => rfl) (fun _ => rfl) (fun _ => rfl) (fun _ => rfl) rfl rfl rfl rfl rfl (Nat.le_of_ble_eq_true rfl) dX6_isAlike_3 ⟨by decide, by decide⟩ (fun r_2 _ h_1 => ?_)
  subst h_1
  refine v_ifz_eq C 11 dX6_isAlike_6 (by decide) (fun h => nomatch h) (fun _ => ?_)
  refine v_iconst C (z := 0) dX6_isAlike_9 ?_
  exact (v_zret C hr hl () rfl (by decide) (by decide) rfl trivial dX6_isAlike_10)
set_option maxHeartbeats 4000000 in
set_option maxRecDepth 100000 in
theorem kX6_isAlike_b (l : Launch) (g : vG) {mm b1 b2 b3 b4 b5 b6 b7 b8 b9 b10 b11 b12 b13 b14 b15 b16 b17 : Nat} {kinds tgs first second vals qs : Nat → Int} {hds An qi qo Tm Nw Kw ris : Nat → Nat} {ni bc cm cn qc cd : Nat} {x0 : Nat} {y : Int} (hI : MI vals ris cn kinds tgs first second qs hds An qi qo Tm ni bc cm qc) (hx0 : x0 < bc) (hy : b31 y) (hqy : ¬ (0 ≤ y ∧ y < ((bc : Nat) : Int)))  : mI l g yX6_isAlike wsX6_isAlike ({ frames := 3, cells := 0, slots := 0, locals := 65 }) [.ref (mm), .int (iI ((x0 : Nat) : Int)), .int (iI (y))] (wMM g mm b1 b2 b3 b4 b5 b6 b7 b8 b9 b10 b11 b12 b13 b14 b15 b16 b17 kinds ni cm first second An An Tm Tm bc hds tgs qc qi qo qs cn vals Nw Nw Kw Kw cd ++ ([])) (fun _ : Unit => wMM g mm b1 b2 b3 b4 b5 b6 b7 b8 b9 b10 b11 b12 b13 b14 b15 b16 b17 kinds ni cm first second An An Tm Tm bc hds tgs qc qi qo qs cn vals Nw Nw Kw Kw 1 ++ ([])) (fun _ _ => True) 0 0 := by
  refine mI_of (cc := cX6_isAlike) (maxL := 4) (ret := (some .boolean)) (own := RX6) (by decide) rfl rfl (Nat.le_of_ble_eq_true rfl) ?_
  intro p e s m args below meth c A C hr hl hin
  obtain ⟨hni, hbc1, hbc, hcm1, hcm, hcn1, hnm, hqc, hhd, htg, hf, hs, hfc, hsc, hAn, hTm, hao, hpal, hqb, hqi, htk, hkd⟩ := id hI
  have hy1 := hy.1
  have hy2 := hy.2
  refine v_aload_n C dX6_isAlike_0 rfl 0 rfl ?_
  refine v_iload_n C dX6_isAlike_1 rfl 1 rfl ?_
  refine v_iload_n C dX6_isAlike_2 rfl 2 rfl ?_
  refine v_invVI C (As := [.int (iI ((x0 : Nat) : Int)), .int (iI (y))]) (q0 := 0) (ci := 6) (kX6_isNoBranches_b l g (mm := mm) (b1 := b1) (b2 := b2) (b3 := b3) (b4 := b4) (b5 := b5) (b6 := b6) (b7 := b7) (b8 := b8) (b9 := b9) (b10 := b10) (b11 := b11) (b12 := b12) (b13 := b13) (b14 := b14) (b15 := b15) (b16 := b16) (b17 := b17) (kinds := kinds) (tgs := tgs) (first := first) (second := second) (vals := vals) (qs := qs) (hds := hds) (An := An) (qi := qi) (qo := qo) (Tm := Tm) (Nw := Nw) (Kw := Kw) (ni := ni) (bc := bc) (cm := cm) (cn := cn) (qc := qc) (cd := cd) (ris := ris) (i0 := x0) (y := y) (by omega) ⟨by omega, by omega⟩ (by omega) (by omega) (by omega)) (cwV 2 C.2.2.2.2.1 gX6_isAlike_X6_isNoBranches rfl rfl rfl (by decide +kernel) ⟨Nat.le_of_ble_eq_true rfl, Nat.le_of_ble_eq_true rfl⟩) [wMM g mm b1 b2 b3 b4 b5 b6 b7 b8 b9 b10 b11 b12 b13 b14 b15 b16 b17 kinds ni cm first second An An Tm Tm bc hds tgs qc qi qo qs cn vals Nw Nw Kw Kw cd] [0] [] [] (fun _ => [wMM g mm b1 b2 b3 b4 b5 b6 b7 b8 b9 b10 b11 b12 b13 b14 b15 b16 b17 kinds ni cm first second An An Tm Tm bc hds tgs qc qi qo qs cn vals Nw Nw Kw Kw 1]) (fun _ => wMM g mm b1 b2 b3 b4 b5 b6 b7 b8 b9 b10 b11 b12 b13 b14 b15 b16 b17 kinds ni cm first second An An Tm Tm bc hds tgs qc qi qo qs cn vals Nw Nw Kw Kw 1 ++ ([])) rfl rfl rfl (fun _ => rfl) (fun _ => rfl) (fun _ => rfl) (fun _ => rfl) rfl rfl rfl rfl rfl (Nat.le_of_ble_eq_true rfl) dX6_isAlike_3 ⟨by decide, by decide⟩ (fun r_2 _ h_1 => ?_)
  subst h_1
  refine v_ifz_eq C 11 dX6_isAlike_6 (by decide) (fun h => nomatch h) (fun _ => ?_)
  refine v_iconst C (z := 0) dX6_isAlike_9 ?_
  exact (v_zret C hr hl () rfl (by decide) (by decide) rfl trivial dX6_isAlike_10)
theorem inX6_pick_6 : ∀ w ∈ u_ws RX6 TX6 23, w ∈ wsX6_pick := by decide +kernel
theorem lkX6_pick_40 : Cond.fieldLink RX6 40 "MergeAtelierModel" "heads" "[I" ∈ wsX6_pick := by decide +kernel
theorem lkX6_pick_17 : Cond.fieldLink RX6 17 "MergeAtelierModel" "firsts" "[I" ∈ wsX6_pick := by decide +kernel
theorem lkX6_pick_76 : Cond.fieldLink RX6 76 "MergeAtelierModel" "items" "I" ∈ wsX6_pick := by decide +kernel
set_option maxHeartbeats 4000000 in
set_option maxRecDepth 100000 in
theorem kX6_pick_ok (l : Launch) (g : vG) {mm b1 b2 b3 b4 b5 b6 b7 b8 b9 b10 b11 b12 b13 b14 b15 b16 b17 : Nat} {kinds tgs first second vals qs : Nat → Int} {hds An qi qo Tm Nw Kw ris : Nat → Nat} {ni bc cm cn qc cd : Nat} {x0 : Nat} {y0 : Nat} (hI : MI vals ris cn kinds tgs first second qs hds An qi qo Tm ni bc cm qc) (hx0 : x0 < bc) (hy0 : y0 < cm) (hq : pcn (first (y0)) (second (y0)) = 1) (hcf : cm < 100) : mI l g yX6_pick wsX6_pick ({ frames := 2, cells := 0, slots := 0, locals := 45 }) [.ref (mm), .int (iI ((x0 : Nat) : Int)), .int (iI ((y0 : Nat) : Int))] (wMM g mm b1 b2 b3 b4 b5 b6 b7 b8 b9 b10 b11 b12 b13 b14 b15 b16 b17 kinds ni cm first second An An Tm Tm bc hds tgs qc qi qo qs cn vals Nw Nw Kw Kw cd ++ ([])) (fun _ : Unit => wMM g mm b1 b2 b3 b4 b5 b6 b7 b8 b9 b10 b11 b12 b13 b14 b15 b16 b17 kinds ni (cm + 1) (updZ first (cm) (((hds (x0) : Nat) : Int))) (updZ second (cm) (-1)) (updN An (cm) (An (hds (x0)) ||| 2 ^ cm)) (updN An (cm) (An (hds (x0)) ||| 2 ^ cm)) (rowP (rowP Tm cm ni (fun i => Tm (12 * hds (x0) + i))) cm ni (npF Nw ni (pickF Tm (hds (x0)) y0 (first (y0)).toNat))) (rowP (rowP Tm cm ni (fun i => Tm (12 * hds (x0) + i))) cm ni (npF Nw ni (pickF Tm (hds (x0)) y0 (first (y0)).toNat))) bc (updN hds (x0) (cm)) tgs qc qi qo qs cn vals (npF Nw ni (pickF Tm (hds (x0)) y0 (first (y0)).toNat)) (npF Nw ni (pickF Tm (hds (x0)) y0 (first (y0)).toNat)) Kw Kw 0 ++ ([])) (fun v _ => v = iI ((cm : Nat) : Int)) 0 0 := by
  refine mI_of (cc := cX6_pick) (maxL := 7) (ret := (some .int)) (own := RX6) (by decide) rfl rfl (Nat.le_of_ble_eq_true rfl) ?_
  intro p e s m args below meth c A C hr hl hin
  obtain ⟨hni, hbc1, hbc, hcm1, hcm, hcn1, hnm, hqc, hhd, htg, hf, hs, hfc, hsc, hAn, hTm, hao, hpal, hqb, hqi, htk, hkd⟩ := id hI
  refine v_aload_n C dX6_pick_0 rfl 0 rfl ?_
  refine v_aload_n C dX6_pick_1 rfl 0 rfl ?_
  refine v_iload_n C dX6_pick_2 rfl 1 rfl ?_
  refine v_invVI C (As := [.int (iI ((x0 : Nat) : Int))]) (q0 := 0) (ci := 6) (kX6_isNoBranch_in l g (mm := mm) (b1 := b1) (b2 := b2) (b3 := b3) (b4 := b4) (b5 := b5) (b6 := b6) (b7 := b7) (b8 := b8) (b9 := b9) (b10 := b10) (b11 := b11) (b12 := b12) (b13 := b13) (b14 := b14) (b15 := b15) (b16 := b16) (b17 := b17) (kinds := kinds) (tgs := tgs) (first := first) (second := second) (vals := vals) (qs := qs) (hds := hds) (An := An) (qi := qi) (qo := qo) (Tm := Tm) (Nw := Nw) (Kw := Kw) (ni := ni) (bc := bc) (cm := cm) (cn := cn) (qc := qc) (cd := cd) (ris := ris) (i0 := x0) (by omega) (by omega)) (cwV 1 C.2.2.2.2.1 gX6_pick_X6_isNoBranch rfl rfl rfl (by decide +kernel) ⟨Nat.le_of_ble_eq_true rfl, Nat.le_of_ble_eq_true rfl⟩) [wMM g mm b1 b2 b3 b4 b5 b6 b7 b8 b9 b10 b11 b12 b13 b14 b15 b16 b17 kinds ni cm first second An An Tm Tm bc hds tgs qc qi qo qs cn vals Nw Nw Kw Kw cd] [0] [] [.ref (mm)] (fun _ => [wMM g mm b1 b2 b3 b4 b5 b6 b7 b8 b9 b10 b11 b12 b13 b14 b15 b16 b17 kinds ni cm first second An An Tm Tm bc hds tgs qc qi qo qs cn vals Nw Nw Kw Kw cd]) (fun _ => wMM g mm b1 b2 b3 b4 b5 b6 b7 b8 b9 b10 b11 b12 b13 b14 b15 b16 b17 kinds ni cm first second An An Tm Tm bc hds tgs qc qi qo qs cn vals Nw Nw Kw Kw cd ++ ([])) rfl rfl rfl (fun _ => rfl) (fun _ => rfl) (fun _ => rfl) (fun _ => rfl) rfl rfl rfl rfl rfl (Nat.le_of_ble_eq_true rfl) dX6_pick_3 ⟨by decide, by decide⟩ (fun r_2 _ h_1 => ?_)
  subst h_1
  refine v_ifz_ne C 17 dX6_pick_6 (by decide) (fun h => nomatch h) (fun _ => ?_)
  refine v_aload_n C dX6_pick_9 rfl 0 rfl ?_
  refine v_iload_n C dX6_pick_10 rfl 2 rfl ?_
  refine v_invVI C (As := [.int (iI ((y0 : Nat) : Int))]) (q0 := 0) (ci := 6) (kX6_isNoCommit_in l g (mm := mm) (b1 := b1) (b2 := b2) (b3 := b3) (b4 := b4) (b5 := b5) (b6 := b6) (b7 := b7) (b8 := b8) (b9 := b9) (b10 := b10) (b11 := b11) (b12 := b12) (b13 := b13) (b14 := b14) (b15 := b15) (b16 := b16) (b17 := b17) (kinds := kinds) (tgs := tgs) (first := first) (second := second) (vals := vals) (qs := qs) (hds := hds) (An := An) (qi := qi) (qo := qo) (Tm := Tm) (Nw := Nw) (Kw := Kw) (ni := ni) (bc := bc) (cm := cm) (cn := cn) (qc := qc) (cd := cd) (ris := ris) (i0 := y0) (by omega) (by omega)) (cwV 1 C.2.2.2.2.1 gX6_pick_X6_isNoCommit rfl rfl rfl (by decide +kernel) ⟨Nat.le_of_ble_eq_true rfl, Nat.le_of_ble_eq_true rfl⟩) [wMM g mm b1 b2 b3 b4 b5 b6 b7 b8 b9 b10 b11 b12 b13 b14 b15 b16 b17 kinds ni cm first second An An Tm Tm bc hds tgs qc qi qo qs cn vals Nw Nw Kw Kw cd] [0] [] [.ref (mm)] (fun _ => [wMM g mm b1 b2 b3 b4 b5 b6 b7 b8 b9 b10 b11 b12 b13 b14 b15 b16 b17 kinds ni cm first second An An Tm Tm bc hds tgs qc qi qo qs cn vals Nw Nw Kw Kw cd]) (fun _ => wMM g mm b1 b2 b3 b4 b5 b6 b7 b8 b9 b10 b11 b12 b13 b14 b15 b16 b17 kinds ni cm first second An An Tm Tm bc hds tgs qc qi qo qs cn vals Nw Nw Kw Kw cd ++ ([])) rfl rfl rfl (fun _ => rfl) (fun _ => rfl) (fun _ => rfl) (fun _ => rfl) rfl rfl rfl rfl rfl (Nat.le_of_ble_eq_true rfl) dX6_pick_11 ⟨by decide, by decide⟩ (fun r_4 _ h_3 => ?_)
  subst h_3
  refine v_ifz_eq C 21 dX6_pick_14 (by decide) (fun _ => ?_) (fun h => nomatch h) 
  refine v_iconst C (z := 0) dX6_pick_21 ?_
  refine v_invVI C (As := [.int (iI (0))]) (q0 := 0) (ci := 6) (kX6_fails_z l g (mm := mm) (b1 := b1) (b2 := b2) (b3 := b3) (b4 := b4) (b5 := b5) (b6 := b6) (b7 := b7) (b8 := b8) (b9 := b9) (b10 := b10) (b11 := b11) (b12 := b12) (b13 := b13) (b14 := b14) (b15 := b15) (b16 := b16) (b17 := b17) (kinds := kinds) (tgs := tgs) (first := first) (second := second) (vals := vals) (qs := qs) (hds := hds) (An := An) (qi := qi) (qo := qo) (Tm := Tm) (Nw := Nw) (Kw := Kw) (ni := ni) (bc := bc) (cm := cm) (cn := cn) (qc := qc) (cd := cd) (ris := ris)  ) (cwV 1 C.2.2.2.2.1 gX6_pick_X6_fails rfl rfl rfl (by decide +kernel) ⟨Nat.le_of_ble_eq_true rfl, Nat.le_of_ble_eq_true rfl⟩) [wMM g mm b1 b2 b3 b4 b5 b6 b7 b8 b9 b10 b11 b12 b13 b14 b15 b16 b17 kinds ni cm first second An An Tm Tm bc hds tgs qc qi qo qs cn vals Nw Nw Kw Kw cd] [0] [] [] (fun _ => [wMM g mm b1 b2 b3 b4 b5 b6 b7 b8 b9 b10 b11 b12 b13 b14 b15 b16 b17 kinds ni cm first second An An Tm Tm bc hds tgs qc qi qo qs cn vals Nw Nw Kw Kw 0]) (fun _ => wMM g mm b1 b2 b3 b4 b5 b6 b7 b8 b9 b10 b11 b12 b13 b14 b15 b16 b17 kinds ni cm first second An An Tm Tm bc hds tgs qc qi qo qs cn vals Nw Nw Kw Kw 0 ++ ([])) rfl rfl rfl (fun _ => rfl) (fun _ => rfl) (fun _ => rfl) (fun _ => rfl) rfl rfl rfl rfl rfl (Nat.le_of_ble_eq_true rfl) dX6_pick_22 ⟨by decide, by decide⟩ (fun r_6 _ h_5 => ?_)
  subst h_5
  refine v_ifz_eq C 30 dX6_pick_25 (by decide) (fun _ => ?_) (fun h => nomatch h) 
  refine v_aload_n C dX6_pick_30 rfl 0 rfl ?_
  refine v_aload_n C dX6_pick_31 rfl 0 rfl ?_
  refine v_iload_n C dX6_pick_32 rfl 2 rfl ?_
  refine v_invVI C (As := [.int (iI ((y0 : Nat) : Int))]) (q0 := 0) (ci := 6) (kX6_parentsOf l g (mm := mm) (b1 := b1) (b2 := b2) (b3 := b3) (b4 := b4) (b5 := b5) (b6 := b6) (b7 := b7) (b8 := b8) (b9 := b9) (b10 := b10) (b11 := b11) (b12 := b12) (b13 := b13) (b14 := b14) (b15 := b15) (b16 := b16) (b17 := b17) (kinds := kinds) (tgs := tgs) (first := first) (second := second) (vals := vals) (qs := qs) (hds := hds) (An := An) (qi := qi) (qo := qo) (Tm := Tm) (Nw := Nw) (Kw := Kw) (ni := ni) (bc := bc) (cm := cm) (cn := cn) (qc := qc) (cd := 0) (ris := ris) (c0 := y0) (by omega) hf hs) (cwV 1 C.2.2.2.2.1 gX6_pick_X6_parentsOf rfl rfl rfl (by decide +kernel) ⟨Nat.le_of_ble_eq_true rfl, Nat.le_of_ble_eq_true rfl⟩) [wMM g mm b1 b2 b3 b4 b5 b6 b7 b8 b9 b10 b11 b12 b13 b14 b15 b16 b17 kinds ni cm first second An An Tm Tm bc hds tgs qc qi qo qs cn vals Nw Nw Kw Kw 0] [0] [] [.ref (mm)] (fun _ => [wMM g mm b1 b2 b3 b4 b5 b6 b7 b8 b9 b10 b11 b12 b13 b14 b15 b16 b17 kinds ni cm first second An An Tm Tm bc hds tgs qc qi qo qs cn vals Nw Nw Kw Kw 0]) (fun _ => wMM g mm b1 b2 b3 b4 b5 b6 b7 b8 b9 b10 b11 b12 b13 b14 b15 b16 b17 kinds ni cm first second An An Tm Tm bc hds tgs qc qi qo qs cn vals Nw Nw Kw Kw 0 ++ ([])) rfl rfl rfl (fun _ => rfl) (fun _ => rfl) (fun _ => rfl) (fun _ => rfl) rfl rfl rfl rfl rfl (Nat.le_of_ble_eq_true rfl) dX6_pick_33 ⟨by decide, by decide⟩ (fun r_8 _ h_7 => ?_)
  subst h_7
  refine v_iconst C (z := 1) dX6_pick_36 ?_
  refine v_icmp_eq C 44 dX6_pick_37 (by decide) (pcn31 _ _) (b31_lit _ rfl) (fun c_9 => ?_) (fun c_9 => ?_)
  ·
    refine v_iconst C (z := 3) dX6_pick_44 ?_
    refine v_aload_n C dX6_pick_45 rfl 0 rfl ?_
    refine v_invVI C (As := []) (q0 := 0) (ci := 6) (kX6_full_n l g (mm := mm) (b1 := b1) (b2 := b2) (b3 := b3) (b4 := b4) (b5 := b5) (b6 := b6) (b7 := b7) (b8 := b8) (b9 := b9) (b10 := b10) (b11 := b11) (b12 := b12) (b13 := b13) (b14 := b14) (b15 := b15) (b16 := b16) (b17 := b17) (kinds := kinds) (tgs := tgs) (first := first) (second := second) (vals := vals) (qs := qs) (hds := hds) (An := An) (qi := qi) (qo := qo) (Tm := Tm) (Nw := Nw) (Kw := Kw) (ni := ni) (bc := bc) (cm := cm) (cn := cn) (qc := qc) (cd := 0) (ris := ris)  (by omega)) (cwV 0 C.2.2.2.2.1 gX6_pick_X6_full rfl rfl rfl (by decide +kernel) ⟨Nat.le_of_ble_eq_true rfl, Nat.le_of_ble_eq_true rfl⟩) [wMM g mm b1 b2 b3 b4 b5 b6 b7 b8 b9 b10 b11 b12 b13 b14 b15 b16 b17 kinds ni cm first second An An Tm Tm bc hds tgs qc qi qo qs cn vals Nw Nw Kw Kw 0] [0] [] [.int (iI (3)), .ref (mm)] (fun _ => [wMM g mm b1 b2 b3 b4 b5 b6 b7 b8 b9 b10 b11 b12 b13 b14 b15 b16 b17 kinds ni cm first second An An Tm Tm bc hds tgs qc qi qo qs cn vals Nw Nw Kw Kw 0]) (fun _ => wMM g mm b1 b2 b3 b4 b5 b6 b7 b8 b9 b10 b11 b12 b13 b14 b15 b16 b17 kinds ni cm first second An An Tm Tm bc hds tgs qc qi qo qs cn vals Nw Nw Kw Kw 0 ++ ([])) rfl rfl rfl (fun _ => rfl) (fun _ => rfl) (fun _ => rfl) (fun _ => rfl) rfl rfl rfl rfl rfl (Nat.le_of_ble_eq_true rfl) dX6_pick_46 ⟨by decide, by decide⟩ (fun r_11 _ h_10 => ?_)
    subst h_10
    refine v_imul C dX6_pick_49 ?_
    refine v_st (st' := [.int (iI (0)), .ref (mm)]) rfl ?_
    refine v_invVI C (As := [.int (iI (0))]) (q0 := 0) (ci := 6) (kX6_fails_z l g (mm := mm) (b1 := b1) (b2 := b2) (b3 := b3) (b4 := b4) (b5 := b5) (b6 := b6) (b7 := b7) (b8 := b8) (b9 := b9) (b10 := b10) (b11 := b11) (b12 := b12) (b13 := b13) (b14 := b14) (b15 := b15) (b16 := b16) (b17 := b17) (kinds := kinds) (tgs := tgs) (first := first) (second := second) (vals := vals) (qs := qs) (hds := hds) (An := An) (qi := qi) (qo := qo) (Tm := Tm) (Nw := Nw) (Kw := Kw) (ni := ni) (bc := bc) (cm := cm) (cn := cn) (qc := qc) (cd := 0) (ris := ris)  ) (cwV 1 C.2.2.2.2.1 gX6_pick_X6_fails rfl rfl rfl (by decide +kernel) ⟨Nat.le_of_ble_eq_true rfl, Nat.le_of_ble_eq_true rfl⟩) [wMM g mm b1 b2 b3 b4 b5 b6 b7 b8 b9 b10 b11 b12 b13 b14 b15 b16 b17 kinds ni cm first second An An Tm Tm bc hds tgs qc qi qo qs cn vals Nw Nw Kw Kw 0] [0] [] [] (fun _ => [wMM g mm b1 b2 b3 b4 b5 b6 b7 b8 b9 b10 b11 b12 b13 b14 b15 b16 b17 kinds ni cm first second An An Tm Tm bc hds tgs qc qi qo qs cn vals Nw Nw Kw Kw 0]) (fun _ => wMM g mm b1 b2 b3 b4 b5 b6 b7 b8 b9 b10 b11 b12 b13 b14 b15 b16 b17 kinds ni cm first second An An Tm Tm bc hds tgs qc qi qo qs cn vals Nw Nw Kw Kw 0 ++ ([])) rfl rfl rfl (fun _ => rfl) (fun _ => rfl) (fun _ => rfl) (fun _ => rfl) rfl rfl rfl rfl rfl (Nat.le_of_ble_eq_true rfl) dX6_pick_50 ⟨by decide, by decide⟩ (fun r_13 _ h_12 => ?_)
    subst h_12
    refine v_ifz_eq C 58 dX6_pick_53 (by decide) (fun _ => ?_) (fun h => nomatch h) 
    have hhx := hhd x0
    have hf1 := pcn_1 (show ((pcn (first (y0)) (second (y0)) : Nat) : Int) = 1 from by omega)
    have hf2 := hf y0
    have hf3 := hfc y0 hy0
    obtain ⟨b0, eb0⟩ : ∃ b : Nat, first (y0) = (b : Int) := ⟨(first (y0)).toNat, by omega⟩
    refine v_aload_n C dX6_pick_58 rfl 0 rfl ?_
    refine v_get C 0 (kf := 10) rfl rfl (by decide) inX6_pick_6 lkX6_pick_40 rfl rfl dX6_pick_59 ?_
    refine v_iload_n C dX6_pick_62 rfl 1 rfl ?_
    refine v_ialdn C 8 (x0) rfl rfl (by omega) (by decide) dX6_pick_63 ?_
    refine v_istore_n C [(3, .int (iI ((hds (x0) : Nat) : Int))), (0, .ref (mm)), (1, .int (iI ((x0 : Nat) : Int))), (2, .int (iI ((y0 : Nat) : Int)))] dX6_pick_64 rfl (by decide) rfl ?_
    refine v_aload_n C dX6_pick_65 rfl 1 rfl ?_
    refine v_get C 0 (kf := 3) rfl rfl (by decide) inX6_pick_6 lkX6_pick_17 rfl rfl dX6_pick_66 ?_
    refine v_iload_n C dX6_pick_69 rfl 3 rfl ?_
    refine v_iald C 2 (y0) rfl rfl (by omega) (by decide) dX6_pick_70 ?_
    rw [eb0]
    refine v_istore C [(4, .int (iI ((b0 : Nat) : Int))), (3, .int (iI ((hds (x0) : Nat) : Int))), (0, .ref (mm)), (1, .int (iI ((x0 : Nat) : Int))), (2, .int (iI ((y0 : Nat) : Int)))] dX6_pick_71 (by decide) rfl ?_
    refine v_iconst C (z := 0) dX6_pick_73 ?_
    refine v_istore C [(5, .int (iI (0))), (4, .int (iI ((b0 : Nat) : Int))), (3, .int (iI ((hds (x0) : Nat) : Int))), (0, .ref (mm)), (1, .int (iI ((x0 : Nat) : Int))), (2, .int (iI ((y0 : Nat) : Int)))] dX6_pick_74 (by decide) rfl ?_
    refine v_lv (lv' := [(0, .ref (mm)), (1, .int (iI ((x0 : Nat) : Int))), (2, .int (iI ((y0 : Nat) : Int))), (3, .int (iI ((hds (x0) : Nat) : Int))), (4, .int (iI ((b0 : Nat) : Int))), (5, .int (iI ((0 : Nat) : Int)))]) [3, 4, 5, 2, 1, 0] rfl ?_
    refine v_ws (ws' := wMM g mm b1 b2 b3 b4 b5 b6 b7 b8 b9 b10 b11 b12 b13 b14 b15 b16 b17 kinds ni cm first second An An Tm Tm bc hds tgs qc qi qo qs cn vals (npF Nw 0 (pickF Tm (hds (x0)) y0 b0)) (npF Nw 0 (pickF Tm (hds (x0)) y0 b0)) Kw Kw 0 ++ ([])) (by rw [npF_0]) ?_
    refine v_lp1 (X := Nat) (fun i => wMM g mm b1 b2 b3 b4 b5 b6 b7 b8 b9 b10 b11 b12 b13 b14 b15 b16 b17 kinds ni cm first second An An Tm Tm bc hds tgs qc qi qo qs cn vals (npF Nw i (pickF Tm (hds (x0)) y0 b0)) (npF Nw i (pickF Tm (hds (x0)) y0 b0)) Kw Kw 0 ++ ([])) (fun i => [(0, .ref (mm)), (1, .int (iI ((x0 : Nat) : Int))), (2, .int (iI ((y0 : Nat) : Int))), (3, .int (iI ((hds (x0) : Nat) : Int))), (4, .int (iI ((b0 : Nat) : Int))), (5, .int (iI ((i : Nat) : Int)))]) (fun i => ni - i) (fun i => i ≤ ni) ?_ (0) (Nat.zero_le _)
    intro i hJ76 ih76
    try dsimp only at hJ76 ⊢
    refine v_iload C dX6_pick_76 5 rfl ?_
    refine v_aload_n C dX6_pick_78 rfl 0 rfl ?_
    refine v_get C 0 (kf := 0) rfl rfl (by decide) inX6_pick_6 lkX6_pick_76 rfl rfl dX6_pick_79 ?_
    refine v_icmp_ge C 149 dX6_pick_82 (by decide) ⟨by omega, by omega⟩ ⟨by omega, by omega⟩ (fun c_14 => ?_) (fun c_14 => ?_)
    ·
      obtain rfl : ni = i := by omega
      refine v_aload_n C dX6_pick_149 rfl 0 rfl ?_
      refine v_iload_n C dX6_pick_150 rfl 1 rfl ?_
      refine v_iconst C (z := -1) dX6_pick_151 ?_
      refine v_invVI C (As := [.int (iI ((x0 : Nat) : Int)), .int (iI (-1))]) (q0 := 0) (ci := 6) (kX6_makes_n l g (mm := mm) (b1 := b1) (b2 := b2) (b3 := b3) (b4 := b4) (b5 := b5) (b6 := b6) (b7 := b7) (b8 := b8) (b9 := b9) (b10 := b10) (b11 := b11) (b12 := b12) (b13 := b13) (b14 := b14) (b15 := b15) (b16 := b16) (b17 := b17) (kinds := kinds) (tgs := tgs) (first := first) (second := second) (vals := vals) (qs := qs) (hds := hds) (An := An) (qi := qi) (qo := qo) (Tm := Tm) (Nw := npF Nw ni (pickF Tm (hds (x0)) y0 b0)) (Kw := Kw) (ni := ni) (bc := bc) (cm := cm) (cn := cn) (qc := qc) (cd := 0) (ris := ris) (b0 := x0) (by omega) (by omega) (by omega) (by omega)) (cwV 2 C.2.2.2.2.1 gX6_pick_X6_makes rfl rfl rfl (by decide +kernel) ⟨Nat.le_of_ble_eq_true rfl, Nat.le_of_ble_eq_true rfl⟩) [wMM g mm b1 b2 b3 b4 b5 b6 b7 b8 b9 b10 b11 b12 b13 b14 b15 b16 b17 kinds ni cm first second An An Tm Tm bc hds tgs qc qi qo qs cn vals (npF Nw ni (pickF Tm (hds (x0)) y0 b0)) (npF Nw ni (pickF Tm (hds (x0)) y0 b0)) Kw Kw 0] [0] [] [] (fun _ => [wMM g mm b1 b2 b3 b4 b5 b6 b7 b8 b9 b10 b11 b12 b13 b14 b15 b16 b17 kinds ni (cm + 1) (updZ first (cm) (((hds (x0) : Nat) : Int))) (updZ second (cm) (-1)) (updN An (cm) (An (hds (x0)) ||| 2 ^ cm)) (updN An (cm) (An (hds (x0)) ||| 2 ^ cm)) (rowP Tm cm ni (fun i => Tm (12 * hds (x0) + i))) (rowP Tm cm ni (fun i => Tm (12 * hds (x0) + i))) bc (updN hds (x0) (cm)) tgs qc qi qo qs cn vals (npF Nw ni (pickF Tm (hds (x0)) y0 b0)) (npF Nw ni (pickF Tm (hds (x0)) y0 b0)) Kw Kw 0]) (fun _ => wMM g mm b1 b2 b3 b4 b5 b6 b7 b8 b9 b10 b11 b12 b13 b14 b15 b16 b17 kinds ni (cm + 1) (updZ first (cm) (((hds (x0) : Nat) : Int))) (updZ second (cm) (-1)) (updN An (cm) (An (hds (x0)) ||| 2 ^ cm)) (updN An (cm) (An (hds (x0)) ||| 2 ^ cm)) (rowP Tm cm ni (fun i => Tm (12 * hds (x0) + i))) (rowP Tm cm ni (fun i => Tm (12 * hds (x0) + i))) bc (updN hds (x0) (cm)) tgs qc qi qo qs cn vals (npF Nw ni (pickF Tm (hds (x0)) y0 b0)) (npF Nw ni (pickF Tm (hds (x0)) y0 b0)) Kw Kw 0 ++ ([])) rfl rfl rfl (fun _ => rfl) (fun _ => rfl) (fun _ => rfl) (fun _ => rfl) rfl rfl rfl rfl rfl (Nat.le_of_ble_eq_true rfl) dX6_pick_152 ⟨by decide, by decide⟩ (fun r_16 _ h_15 => ?_)
      subst h_15
      refine v_istore C [(5, .int (iI ((cm : Nat) : Int))), (0, .ref (mm)), (1, .int (iI ((x0 : Nat) : Int))), (2, .int (iI ((y0 : Nat) : Int))), (3, .int (iI ((hds (x0) : Nat) : Int))), (4, .int (iI ((b0 : Nat) : Int)))] dX6_pick_155 (by decide) rfl ?_
      refine v_aload_n C dX6_pick_157 rfl 1 rfl ?_
      refine v_iload C dX6_pick_158 0 rfl ?_
      refine v_invVV C (As := [.int (iI ((cm : Nat) : Int))]) (q0 := 0) (ci := 6) (kX6_takes l g (mm := mm) (b1 := b1) (b2 := b2) (b3 := b3) (b4 := b4) (b5 := b5) (b6 := b6) (b7 := b7) (b8 := b8) (b9 := b9) (b10 := b10) (b11 := b11) (b12 := b12) (b13 := b13) (b14 := b14) (b15 := b15) (b16 := b16) (b17 := b17) (kinds := kinds) (tgs := tgs) (first := updZ first (cm) (((hds (x0) : Nat) : Int))) (second := updZ second (cm) (-1)) (vals := vals) (qs := qs) (hds := updN hds (x0) (cm)) (An := updN An (cm) (An (hds (x0)) ||| 2 ^ cm)) (qi := qi) (qo := qo) (Tm := rowP Tm cm ni (fun i => Tm (12 * hds (x0) + i))) (Nw := npF Nw ni (pickF Tm (hds (x0)) y0 b0)) (Kw := Kw) (ni := ni) (bc := bc) (cm := cm + 1) (cn := cn) (qc := qc) (cd := 0) (ris := ris) (c0 := cm) (by omega) (by omega)) (cwV 1 C.2.2.2.2.1 gX6_pick_X6_takes rfl rfl rfl (by decide +kernel) ⟨Nat.le_of_ble_eq_true rfl, Nat.le_of_ble_eq_true rfl⟩) [wMM g mm b1 b2 b3 b4 b5 b6 b7 b8 b9 b10 b11 b12 b13 b14 b15 b16 b17 kinds ni (cm + 1) (updZ first (cm) (((hds (x0) : Nat) : Int))) (updZ second (cm) (-1)) (updN An (cm) (An (hds (x0)) ||| 2 ^ cm)) (updN An (cm) (An (hds (x0)) ||| 2 ^ cm)) (rowP Tm cm ni (fun i => Tm (12 * hds (x0) + i))) (rowP Tm cm ni (fun i => Tm (12 * hds (x0) + i))) bc (updN hds (x0) (cm)) tgs qc qi qo qs cn vals (npF Nw ni (pickF Tm (hds (x0)) y0 b0)) (npF Nw ni (pickF Tm (hds (x0)) y0 b0)) Kw Kw 0] [0] [] [] (fun _ => [wMM g mm b1 b2 b3 b4 b5 b6 b7 b8 b9 b10 b11 b12 b13 b14 b15 b16 b17 kinds ni (cm + 1) (updZ first (cm) (((hds (x0) : Nat) : Int))) (updZ second (cm) (-1)) (updN An (cm) (An (hds (x0)) ||| 2 ^ cm)) (updN An (cm) (An (hds (x0)) ||| 2 ^ cm)) (rowP (rowP Tm cm ni (fun i => Tm (12 * hds (x0) + i))) cm ni (npF Nw ni (pickF Tm (hds (x0)) y0 b0))) (rowP (rowP Tm cm ni (fun i => Tm (12 * hds (x0) + i))) cm ni (npF Nw ni (pickF Tm (hds (x0)) y0 b0))) bc (updN hds (x0) (cm)) tgs qc qi qo qs cn vals (npF Nw ni (pickF Tm (hds (x0)) y0 b0)) (npF Nw ni (pickF Tm (hds (x0)) y0 b0)) Kw Kw 0]) (fun _ => wMM g mm b1 b2 b3 b4 b5 b6 b7 b8 b9 b10 b11 b12 b13 b14 b15 b16 b17 kinds ni (cm + 1) (updZ first (cm) (((hds (x0) : Nat) : Int))) (updZ second (cm) (-1)) (updN An (cm) (An (hds (x0)) ||| 2 ^ cm)) (updN An (cm) (An (hds (x0)) ||| 2 ^ cm)) (rowP (rowP Tm cm ni (fun i => Tm (12 * hds (x0) + i))) cm ni (npF Nw ni (pickF Tm (hds (x0)) y0 b0))) (rowP (rowP Tm cm ni (fun i => Tm (12 * hds (x0) + i))) cm ni (npF Nw ni (pickF Tm (hds (x0)) y0 b0))) bc (updN hds (x0) (cm)) tgs qc qi qo qs cn vals (npF Nw ni (pickF Tm (hds (x0)) y0 b0)) (npF Nw ni (pickF Tm (hds (x0)) y0 b0)) Kw Kw 0 ++ ([])) rfl rfl rfl (fun _ => rfl) (fun _ => rfl) (fun _ => rfl) (fun _ => rfl) rfl rfl rfl rfl rfl (Nat.le_of_ble_eq_true rfl) dX6_pick_160 ⟨by decide, by decide⟩ (fun _ h_17 => ?_)
      refine v_iload C dX6_pick_163 0 rfl ?_
      exact (v_iret C hr hl () (by decide) (by decide) rfl rfl dX6_pick_165)
    ·
      refine v_aload_n C dX6_pick_85 rfl 0 rfl ?_
      refine v_iload_n C dX6_pick_86 rfl 2 rfl ?_
      refine v_iload C dX6_pick_87 4 rfl ?_
      refine v_iload C dX6_pick_89 5 rfl ?_
      refine v_invVI C (As := [.int (iI ((y0 : Nat) : Int)), .int (iI ((b0 : Nat) : Int)), .int (iI ((i : Nat) : Int))]) (q0 := 0) (ci := 6) (kX6_isSame l g (mm := mm) (b1 := b1) (b2 := b2) (b3 := b3) (b4 := b4) (b5 := b5) (b6 := b6) (b7 := b7) (b8 := b8) (b9 := b9) (b10 := b10) (b11 := b11) (b12 := b12) (b13 := b13) (b14 := b14) (b15 := b15) (b16 := b16) (b17 := b17) (kinds := kinds) (tgs := tgs) (first := first) (second := second) (vals := vals) (qs := qs) (hds := hds) (An := An) (qi := qi) (qo := qo) (Tm := Tm) (Nw := npF Nw i (pickF Tm (hds (x0)) y0 b0)) (Kw := Kw) (ni := ni) (bc := bc) (cm := cm) (cn := cn) (qc := qc) (cd := 0) (ris := ris) (c0 := y0) (d0 := b0) (i0 := i) (by omega) (by omega) (by omega) hTm) (cwV 3 C.2.2.2.2.1 gX6_pick_X6_isSame rfl rfl rfl (by decide +kernel) ⟨Nat.le_of_ble_eq_true rfl, Nat.le_of_ble_eq_true rfl⟩) [wMM g mm b1 b2 b3 b4 b5 b6 b7 b8 b9 b10 b11 b12 b13 b14 b15 b16 b17 kinds ni cm first second An An Tm Tm bc hds tgs qc qi qo qs cn vals (npF Nw i (pickF Tm (hds (x0)) y0 b0)) (npF Nw i (pickF Tm (hds (x0)) y0 b0)) Kw Kw 0] [0] [] [] (fun _ => [wMM g mm b1 b2 b3 b4 b5 b6 b7 b8 b9 b10 b11 b12 b13 b14 b15 b16 b17 kinds ni cm first second An An Tm Tm bc hds tgs qc qi qo qs cn vals (npF Nw i (pickF Tm (hds (x0)) y0 b0)) (npF Nw i (pickF Tm (hds (x0)) y0 b0)) Kw Kw 0]) (fun _ => wMM g mm b1 b2 b3 b4 b5 b6 b7 b8 b9 b10 b11 b12 b13 b14 b15 b16 b17 kinds ni cm first second An An Tm Tm bc hds tgs qc qi qo qs cn vals (npF Nw i (pickF Tm (hds (x0)) y0 b0)) (npF Nw i (pickF Tm (hds (x0)) y0 b0)) Kw Kw 0 ++ ([])) rfl rfl rfl (fun _ => rfl) (fun _ => rfl) (fun _ => rfl) (fun _ => rfl) rfl rfl rfl rfl rfl (Nat.le_of_ble_eq_true rfl) dX6_pick_91 ⟨by decide, by decide⟩ (fun r_20 _ h_19 => ?_)
      subst h_19
      refine v_istore C [(6, .int (iI (bZ (decide (Tm (12 * y0 + i) = Tm (12 * b0 + i)))))), (0, .ref (mm)), (1, .int (iI ((x0 : Nat) : Int))), (2, .int (iI ((y0 : Nat) : Int))), (3, .int (iI ((hds (x0) : Nat) : Int))), (4, .int (iI ((b0 : Nat) : Int))), (5, .int (iI ((i : Nat) : Int)))] dX6_pick_94 (by decide) rfl ?_
      refine v_aload_n C dX6_pick_96 rfl 1 rfl ?_
      refine v_iload C dX6_pick_97 0 rfl ?_
      refine v_ifz_eq C 106 dX6_pick_99 (by decide) (fun c_21 => ?_) (fun c_21 => ?_)
      ·
        rw [c_21]
        refine v_iload_n C dX6_pick_106 rfl 3 rfl ?_
        refine v_iload C dX6_pick_107 0 rfl ?_
        refine v_ifz_ne C 124 dX6_pick_109 (by decide) (fun h => nomatch h) (fun _ => ?_)
        refine v_aload_n C dX6_pick_112 rfl 1 rfl ?_
        refine v_iload_n C dX6_pick_113 rfl 4 rfl ?_
        refine v_iload C dX6_pick_114 5 rfl ?_
        refine v_iload C dX6_pick_116 6 rfl ?_
        refine v_invVI C (As := [.int (iI ((hds (x0) : Nat) : Int)), .int (iI ((b0 : Nat) : Int)), .int (iI ((i : Nat) : Int))]) (q0 := 0) (ci := 6) (kX6_isSame l g (mm := mm) (b1 := b1) (b2 := b2) (b3 := b3) (b4 := b4) (b5 := b5) (b6 := b6) (b7 := b7) (b8 := b8) (b9 := b9) (b10 := b10) (b11 := b11) (b12 := b12) (b13 := b13) (b14 := b14) (b15 := b15) (b16 := b16) (b17 := b17) (kinds := kinds) (tgs := tgs) (first := first) (second := second) (vals := vals) (qs := qs) (hds := hds) (An := An) (qi := qi) (qo := qo) (Tm := Tm) (Nw := npF Nw i (pickF Tm (hds (x0)) y0 b0)) (Kw := Kw) (ni := ni) (bc := bc) (cm := cm) (cn := cn) (qc := qc) (cd := 0) (ris := ris) (c0 := hds (x0)) (d0 := b0) (i0 := i) (by omega) (by omega) (by omega) hTm) (cwV 3 C.2.2.2.2.1 gX6_pick_X6_isSame rfl rfl rfl (by decide +kernel) ⟨Nat.le_of_ble_eq_true rfl, Nat.le_of_ble_eq_true rfl⟩) [wMM g mm b1 b2 b3 b4 b5 b6 b7 b8 b9 b10 b11 b12 b13 b14 b15 b16 b17 kinds ni cm first second An An Tm Tm bc hds tgs qc qi qo qs cn vals (npF Nw i (pickF Tm (hds (x0)) y0 b0)) (npF Nw i (pickF Tm (hds (x0)) y0 b0)) Kw Kw 0] [0] [] [.int (iI ((y0 : Nat) : Int)), .ref (mm)] (fun _ => [wMM g mm b1 b2 b3 b4 b5 b6 b7 b8 b9 b10 b11 b12 b13 b14 b15 b16 b17 kinds ni cm first second An An Tm Tm bc hds tgs qc qi qo qs cn vals (npF Nw i (pickF Tm (hds (x0)) y0 b0)) (npF Nw i (pickF Tm (hds (x0)) y0 b0)) Kw Kw 0]) (fun _ => wMM g mm b1 b2 b3 b4 b5 b6 b7 b8 b9 b10 b11 b12 b13 b14 b15 b16 b17 kinds ni cm first second An An Tm Tm bc hds tgs qc qi qo qs cn vals (npF Nw i (pickF Tm (hds (x0)) y0 b0)) (npF Nw i (pickF Tm (hds (x0)) y0 b0)) Kw Kw 0 ++ ([])) rfl rfl rfl (fun _ => rfl) (fun _ => rfl) (fun _ => rfl) (fun _ => rfl) rfl rfl rfl rfl rfl (Nat.le_of_ble_eq_true rfl) dX6_pick_118 ⟨by decide, by decide⟩ (fun r_23 _ h_22 => ?_)
        subst h_22
        refine v_ifz_eq C 137 dX6_pick_121 (by decide) (fun c_24 => ?_) (fun c_24 => ?_)
        ·
          refine v_iload_n C dX6_pick_137 rfl 4 rfl ?_
          refine v_iload C dX6_pick_138 6 rfl ?_
          refine v_invVV C (As := [.int (iI ((y0 : Nat) : Int)), .int (iI ((hds (x0) : Nat) : Int)), .int (iI ((i : Nat) : Int))]) (q0 := 0) (ci := 6) (kX6_unites l g (mm := mm) (b1 := b1) (b2 := b2) (b3 := b3) (b4 := b4) (b5 := b5) (b6 := b6) (b7 := b7) (b8 := b8) (b9 := b9) (b10 := b10) (b11 := b11) (b12 := b12) (b13 := b13) (b14 := b14) (b15 := b15) (b16 := b16) (b17 := b17) (kinds := kinds) (tgs := tgs) (first := first) (second := second) (vals := vals) (qs := qs) (hds := hds) (An := An) (qi := qi) (qo := qo) (Tm := Tm) (Nw := npF Nw i (pickF Tm (hds (x0)) y0 b0)) (Kw := Kw) (ni := ni) (bc := bc) (cm := cm) (cn := cn) (qc := qc) (cd := 0) (ris := ris) (c0 := y0) (d0 := hds (x0)) (i0 := i) (by omega) (by omega) (by omega)) (cwV 3 C.2.2.2.2.1 gX6_pick_X6_unites rfl rfl rfl (by decide +kernel) ⟨Nat.le_of_ble_eq_true rfl, Nat.le_of_ble_eq_true rfl⟩) [wMM g mm b1 b2 b3 b4 b5 b6 b7 b8 b9 b10 b11 b12 b13 b14 b15 b16 b17 kinds ni cm first second An An Tm Tm bc hds tgs qc qi qo qs cn vals (npF Nw i (pickF Tm (hds (x0)) y0 b0)) (npF Nw i (pickF Tm (hds (x0)) y0 b0)) Kw Kw 0] [0] [] [] (fun _ => [wMM g mm b1 b2 b3 b4 b5 b6 b7 b8 b9 b10 b11 b12 b13 b14 b15 b16 b17 kinds ni cm first second An An Tm Tm bc hds tgs qc qi qo qs cn vals (updN (npF Nw i (pickF Tm (hds (x0)) y0 b0)) (i) (Tm (12 * y0 + i) ||| Tm (12 * (hds (x0)) + i))) (updN (npF Nw i (pickF Tm (hds (x0)) y0 b0)) (i) (Tm (12 * y0 + i) ||| Tm (12 * (hds (x0)) + i))) Kw Kw 0]) (fun _ => wMM g mm b1 b2 b3 b4 b5 b6 b7 b8 b9 b10 b11 b12 b13 b14 b15 b16 b17 kinds ni cm first second An An Tm Tm bc hds tgs qc qi qo qs cn vals (updN (npF Nw i (pickF Tm (hds (x0)) y0 b0)) (i) (Tm (12 * y0 + i) ||| Tm (12 * (hds (x0)) + i))) (updN (npF Nw i (pickF Tm (hds (x0)) y0 b0)) (i) (Tm (12 * y0 + i) ||| Tm (12 * (hds (x0)) + i))) Kw Kw 0 ++ ([])) rfl rfl rfl (fun _ => rfl) (fun _ => rfl) (fun _ => rfl) (fun _ => rfl) rfl rfl rfl rfl rfl (Nat.le_of_ble_eq_true rfl) dX6_pick_140 ⟨by decide, by decide⟩ (fun _ h_25 => ?_)
          refine v_iinc C [(5, .int (iI (((i : Nat) : Int) + 1))), (6, .int (iI (bZ (false)))), (0, .ref (mm)), (1, .int (iI ((x0 : Nat) : Int))), (2, .int (iI ((y0 : Nat) : Int))), (3, .int (iI ((hds (x0) : Nat) : Int))), (4, .int (iI ((b0 : Nat) : Int)))] dX6_pick_143 6 rfl (by decide) rfl ?_
          rw [show ((i : Nat) : Int) + 1 = ((i + 1 : Nat) : Int) from rfl]
          refine v_goto C 76 dX6_pick_146 (by decide) ?_
          refine v_lv (lv' := [(0, .ref (mm)), (1, .int (iI ((x0 : Nat) : Int))), (2, .int (iI ((y0 : Nat) : Int))), (3, .int (iI ((hds (x0) : Nat) : Int))), (4, .int (iI ((b0 : Nat) : Int))), (5, .int (iI ((i + 1 : Nat) : Int)))]) [2, 3, 4, 5, 6, 0] rfl ?_
          refine v_ws (ws' := wMM g mm b1 b2 b3 b4 b5 b6 b7 b8 b9 b10 b11 b12 b13 b14 b15 b16 b17 kinds ni cm first second An An Tm Tm bc hds tgs qc qi qo qs cn vals (npF Nw (i + 1) (pickF Tm (hds (x0)) y0 b0)) (npF Nw (i + 1) (pickF Tm (hds (x0)) y0 b0)) Kw Kw 0 ++ ([])) (by rw [Nat.or_comm, np_step (show pickF Tm (hds (x0)) y0 b0 i = _ from pkc_c (of_decide_eq_false c_21) (of_decide_eq_false c_24))]) ?_
          exact ih76 (i + 1) (by omega) (by omega)
        ·
          refine v_iload C dX6_pick_124 0 rfl ?_
          refine v_ifz_eq C 133 dX6_pick_126 (by decide) (fun _ => ?_) (fun h => nomatch h) 
          refine v_iload_n C dX6_pick_133 rfl 3 rfl ?_
          refine v_goto C 138 dX6_pick_134 (by decide) ?_
          refine v_iload C dX6_pick_138 6 rfl ?_
          refine v_invVV C (As := [.int (iI ((y0 : Nat) : Int)), .int (iI ((y0 : Nat) : Int)), .int (iI ((i : Nat) : Int))]) (q0 := 0) (ci := 6) (kX6_unites l g (mm := mm) (b1 := b1) (b2 := b2) (b3 := b3) (b4 := b4) (b5 := b5) (b6 := b6) (b7 := b7) (b8 := b8) (b9 := b9) (b10 := b10) (b11 := b11) (b12 := b12) (b13 := b13) (b14 := b14) (b15 := b15) (b16 := b16) (b17 := b17) (kinds := kinds) (tgs := tgs) (first := first) (second := second) (vals := vals) (qs := qs) (hds := hds) (An := An) (qi := qi) (qo := qo) (Tm := Tm) (Nw := npF Nw i (pickF Tm (hds (x0)) y0 b0)) (Kw := Kw) (ni := ni) (bc := bc) (cm := cm) (cn := cn) (qc := qc) (cd := 0) (ris := ris) (c0 := y0) (d0 := y0) (i0 := i) (by omega) (by omega) (by omega)) (cwV 3 C.2.2.2.2.1 gX6_pick_X6_unites rfl rfl rfl (by decide +kernel) ⟨Nat.le_of_ble_eq_true rfl, Nat.le_of_ble_eq_true rfl⟩) [wMM g mm b1 b2 b3 b4 b5 b6 b7 b8 b9 b10 b11 b12 b13 b14 b15 b16 b17 kinds ni cm first second An An Tm Tm bc hds tgs qc qi qo qs cn vals (npF Nw i (pickF Tm (hds (x0)) y0 b0)) (npF Nw i (pickF Tm (hds (x0)) y0 b0)) Kw Kw 0] [0] [] [] (fun _ => [wMM g mm b1 b2 b3 b4 b5 b6 b7 b8 b9 b10 b11 b12 b13 b14 b15 b16 b17 kinds ni cm first second An An Tm Tm bc hds tgs qc qi qo qs cn vals (updN (npF Nw i (pickF Tm (hds (x0)) y0 b0)) (i) (Tm (12 * y0 + i) ||| Tm (12 * y0 + i))) (updN (npF Nw i (pickF Tm (hds (x0)) y0 b0)) (i) (Tm (12 * y0 + i) ||| Tm (12 * y0 + i))) Kw Kw 0]) (fun _ => wMM g mm b1 b2 b3 b4 b5 b6 b7 b8 b9 b10 b11 b12 b13 b14 b15 b16 b17 kinds ni cm first second An An Tm Tm bc hds tgs qc qi qo qs cn vals (updN (npF Nw i (pickF Tm (hds (x0)) y0 b0)) (i) (Tm (12 * y0 + i) ||| Tm (12 * y0 + i))) (updN (npF Nw i (pickF Tm (hds (x0)) y0 b0)) (i) (Tm (12 * y0 + i) ||| Tm (12 * y0 + i))) Kw Kw 0 ++ ([])) rfl rfl rfl (fun _ => rfl) (fun _ => rfl) (fun _ => rfl) (fun _ => rfl) rfl rfl rfl rfl rfl (Nat.le_of_ble_eq_true rfl) dX6_pick_140 ⟨by decide, by decide⟩ (fun _ h_27 => ?_)
          refine v_iinc C [(5, .int (iI (((i : Nat) : Int) + 1))), (6, .int (iI (bZ (false)))), (0, .ref (mm)), (1, .int (iI ((x0 : Nat) : Int))), (2, .int (iI ((y0 : Nat) : Int))), (3, .int (iI ((hds (x0) : Nat) : Int))), (4, .int (iI ((b0 : Nat) : Int)))] dX6_pick_143 6 rfl (by decide) rfl ?_
          rw [show ((i : Nat) : Int) + 1 = ((i + 1 : Nat) : Int) from rfl]
          refine v_goto C 76 dX6_pick_146 (by decide) ?_
          refine v_lv (lv' := [(0, .ref (mm)), (1, .int (iI ((x0 : Nat) : Int))), (2, .int (iI ((y0 : Nat) : Int))), (3, .int (iI ((hds (x0) : Nat) : Int))), (4, .int (iI ((b0 : Nat) : Int))), (5, .int (iI ((i + 1 : Nat) : Int)))]) [2, 3, 4, 5, 6, 0] rfl ?_
          refine v_ws (ws' := wMM g mm b1 b2 b3 b4 b5 b6 b7 b8 b9 b10 b11 b12 b13 b14 b15 b16 b17 kinds ni cm first second An An Tm Tm bc hds tgs qc qi qo qs cn vals (npF Nw (i + 1) (pickF Tm (hds (x0)) y0 b0)) (npF Nw (i + 1) (pickF Tm (hds (x0)) y0 b0)) Kw Kw 0 ++ ([])) (by rw [Nat.or_self, np_step (show pickF Tm (hds (x0)) y0 b0 i = _ from pkc_b (of_decide_eq_false c_21) (of_decide_eq_true c_24))]) ?_
          exact ih76 (i + 1) (by omega) (by omega)
      ·
        rw [c_21]
        refine v_iload_n C dX6_pick_102 rfl 4 rfl ?_
        refine v_goto C 107 dX6_pick_103 (by decide) ?_
        refine v_iload C dX6_pick_107 0 rfl ?_
        refine v_ifz_ne C 124 dX6_pick_109 (by decide) (fun _ => ?_) (fun h => nomatch h) 
        refine v_iload C dX6_pick_124 0 rfl ?_
        refine v_ifz_eq C 133 dX6_pick_126 (by decide) (fun h => nomatch h) (fun _ => ?_)
        refine v_iload_n C dX6_pick_129 rfl 4 rfl ?_
        refine v_goto C 138 dX6_pick_130 (by decide) ?_
        refine v_iload C dX6_pick_138 6 rfl ?_
        refine v_invVV C (As := [.int (iI ((hds (x0) : Nat) : Int)), .int (iI ((hds (x0) : Nat) : Int)), .int (iI ((i : Nat) : Int))]) (q0 := 0) (ci := 6) (kX6_unites l g (mm := mm) (b1 := b1) (b2 := b2) (b3 := b3) (b4 := b4) (b5 := b5) (b6 := b6) (b7 := b7) (b8 := b8) (b9 := b9) (b10 := b10) (b11 := b11) (b12 := b12) (b13 := b13) (b14 := b14) (b15 := b15) (b16 := b16) (b17 := b17) (kinds := kinds) (tgs := tgs) (first := first) (second := second) (vals := vals) (qs := qs) (hds := hds) (An := An) (qi := qi) (qo := qo) (Tm := Tm) (Nw := npF Nw i (pickF Tm (hds (x0)) y0 b0)) (Kw := Kw) (ni := ni) (bc := bc) (cm := cm) (cn := cn) (qc := qc) (cd := 0) (ris := ris) (c0 := hds (x0)) (d0 := hds (x0)) (i0 := i) (by omega) (by omega) (by omega)) (cwV 3 C.2.2.2.2.1 gX6_pick_X6_unites rfl rfl rfl (by decide +kernel) ⟨Nat.le_of_ble_eq_true rfl, Nat.le_of_ble_eq_true rfl⟩) [wMM g mm b1 b2 b3 b4 b5 b6 b7 b8 b9 b10 b11 b12 b13 b14 b15 b16 b17 kinds ni cm first second An An Tm Tm bc hds tgs qc qi qo qs cn vals (npF Nw i (pickF Tm (hds (x0)) y0 b0)) (npF Nw i (pickF Tm (hds (x0)) y0 b0)) Kw Kw 0] [0] [] [] (fun _ => [wMM g mm b1 b2 b3 b4 b5 b6 b7 b8 b9 b10 b11 b12 b13 b14 b15 b16 b17 kinds ni cm first second An An Tm Tm bc hds tgs qc qi qo qs cn vals (updN (npF Nw i (pickF Tm (hds (x0)) y0 b0)) (i) (Tm (12 * (hds (x0)) + i) ||| Tm (12 * (hds (x0)) + i))) (updN (npF Nw i (pickF Tm (hds (x0)) y0 b0)) (i) (Tm (12 * (hds (x0)) + i) ||| Tm (12 * (hds (x0)) + i))) Kw Kw 0]) (fun _ => wMM g mm b1 b2 b3 b4 b5 b6 b7 b8 b9 b10 b11 b12 b13 b14 b15 b16 b17 kinds ni cm first second An An Tm Tm bc hds tgs qc qi qo qs cn vals (updN (npF Nw i (pickF Tm (hds (x0)) y0 b0)) (i) (Tm (12 * (hds (x0)) + i) ||| Tm (12 * (hds (x0)) + i))) (updN (npF Nw i (pickF Tm (hds (x0)) y0 b0)) (i) (Tm (12 * (hds (x0)) + i) ||| Tm (12 * (hds (x0)) + i))) Kw Kw 0 ++ ([])) rfl rfl rfl (fun _ => rfl) (fun _ => rfl) (fun _ => rfl) (fun _ => rfl) rfl rfl rfl rfl rfl (Nat.le_of_ble_eq_true rfl) dX6_pick_140 ⟨by decide, by decide⟩ (fun _ h_29 => ?_)
        refine v_iinc C [(5, .int (iI (((i : Nat) : Int) + 1))), (6, .int (iI (bZ (true)))), (0, .ref (mm)), (1, .int (iI ((x0 : Nat) : Int))), (2, .int (iI ((y0 : Nat) : Int))), (3, .int (iI ((hds (x0) : Nat) : Int))), (4, .int (iI ((b0 : Nat) : Int)))] dX6_pick_143 6 rfl (by decide) rfl ?_
        rw [show ((i : Nat) : Int) + 1 = ((i + 1 : Nat) : Int) from rfl]
        refine v_goto C 76 dX6_pick_146 (by decide) ?_
        refine v_lv (lv' := [(0, .ref (mm)), (1, .int (iI ((x0 : Nat) : Int))), (2, .int (iI ((y0 : Nat) : Int))), (3, .int (iI ((hds (x0) : Nat) : Int))), (4, .int (iI ((b0 : Nat) : Int))), (5, .int (iI ((i + 1 : Nat) : Int)))]) [2, 3, 4, 5, 6, 0] rfl ?_
        refine v_ws (ws' := wMM g mm b1 b2 b3 b4 b5 b6 b7 b8 b9 b10 b11 b12 b13 b14 b15 b16 b17 kinds ni cm first second An An Tm Tm bc hds tgs qc qi qo qs cn vals (npF Nw (i + 1) (pickF Tm (hds (x0)) y0 b0)) (npF Nw (i + 1) (pickF Tm (hds (x0)) y0 b0)) Kw Kw 0 ++ ([])) (by rw [Nat.or_self, np_step (show pickF Tm (hds (x0)) y0 b0 i = _ from pkc_a (of_decide_eq_true c_21))]) ?_
        exact ih76 (i + 1) (by omega) (by omega)
  ·
    exfalso; omega
set_option maxHeartbeats 4000000 in
set_option maxRecDepth 100000 in
theorem kX6_pick_a (l : Launch) (g : vG) {mm b1 b2 b3 b4 b5 b6 b7 b8 b9 b10 b11 b12 b13 b14 b15 b16 b17 : Nat} {kinds tgs first second vals qs : Nat → Int} {hds An qi qo Tm Nw Kw ris : Nat → Nat} {ni bc cm cn qc cd : Nat} {x : Int} {y : Int} (hI : MI vals ris cn kinds tgs first second qs hds An qi qo Tm ni bc cm qc) (hx : b31 x) (hqx : ¬ (0 ≤ x ∧ x < ((bc : Nat) : Int))) (hy : b31 y)  : mI l g yX6_pick wsX6_pick ({ frames := 2, cells := 0, slots := 0, locals := 43 }) [.ref (mm), .int (iI (x)), .int (iI (y))] (wMM g mm b1 b2 b3 b4 b5 b6 b7 b8 b9 b10 b11 b12 b13 b14 b15 b16 b17 kinds ni cm first second An An Tm Tm bc hds tgs qc qi qo qs cn vals Nw Nw Kw Kw cd ++ ([])) (fun _ : Unit => wMM g mm b1 b2 b3 b4 b5 b6 b7 b8 b9 b10 b11 b12 b13 b14 b15 b16 b17 kinds ni cm first second An An Tm Tm bc hds tgs qc qi qo qs cn vals Nw Nw Kw Kw 1 ++ ([])) (fun _ _ => True) 0 0 := by
  refine mI_of (cc := cX6_pick) (maxL := 7) (ret := (some .int)) (own := RX6) (by decide) rfl rfl (Nat.le_of_ble_eq_true rfl) ?_
  intro p e s m args below meth c A C hr hl hin
  obtain ⟨hni, hbc1, hbc, hcm1, hcm, hcn1, hnm, hqc, hhd, htg, hf, hs, hfc, hsc, hAn, hTm, hao, hpal, hqb, hqi, htk, hkd⟩ := id hI
  have hx1 := hx.1
  have hx2 := hx.2
  have hy1 := hy.1
  have hy2 := hy.2
  refine v_aload_n C dX6_pick_0 rfl 0 rfl ?_
  refine v_aload_n C dX6_pick_1 rfl 0 rfl ?_
  refine v_iload_n C dX6_pick_2 rfl 1 rfl ?_
  refine v_invVI C (As := [.int (iI (x))]) (q0 := 0) (ci := 6) (kX6_isNoBranch_out l g (mm := mm) (b1 := b1) (b2 := b2) (b3 := b3) (b4 := b4) (b5 := b5) (b6 := b6) (b7 := b7) (b8 := b8) (b9 := b9) (b10 := b10) (b11 := b11) (b12 := b12) (b13 := b13) (b14 := b14) (b15 := b15) (b16 := b16) (b17 := b17) (kinds := kinds) (tgs := tgs) (first := first) (second := second) (vals := vals) (qs := qs) (hds := hds) (An := An) (qi := qi) (qo := qo) (Tm := Tm) (Nw := Nw) (Kw := Kw) (ni := ni) (bc := bc) (cm := cm) (cn := cn) (qc := qc) (cd := cd) (ris := ris) (x := x) ⟨by omega, by omega⟩ (by omega) (by omega)) (cwV 1 C.2.2.2.2.1 gX6_pick_X6_isNoBranch rfl rfl rfl (by decide +kernel) ⟨Nat.le_of_ble_eq_true rfl, Nat.le_of_ble_eq_true rfl⟩) [wMM g mm b1 b2 b3 b4 b5 b6 b7 b8 b9 b10 b11 b12 b13 b14 b15 b16 b17 kinds ni cm first second An An Tm Tm bc hds tgs qc qi qo qs cn vals Nw Nw Kw Kw cd] [0] [] [.ref (mm)] (fun _ => [wMM g mm b1 b2 b3 b4 b5 b6 b7 b8 b9 b10 b11 b12 b13 b14 b15 b16 b17 kinds ni cm first second An An Tm Tm bc hds tgs qc qi qo qs cn vals Nw Nw Kw Kw cd]) (fun _ => wMM g mm b1 b2 b3 b4 b5 b6 b7 b8 b9 b10 b11 b12 b13 b14 b15 b16 b17 kinds ni cm first second An An Tm Tm bc hds tgs qc qi qo qs cn vals Nw Nw Kw Kw cd ++ ([])) rfl rfl rfl (fun _ => rfl) (fun _ => rfl) (fun _ => rfl) (fun _ => rfl) rfl rfl rfl rfl rfl (Nat.le_of_ble_eq_true rfl) dX6_pick_3 ⟨by decide, by decide⟩ (fun r_2 _ h_1 => ?_)
  subst h_1
  refine v_ifz_ne C 17 dX6_pick_6 (by decide) (fun _ => ?_) (fun h => nomatch h) 
  refine v_iconst C (z := 1) dX6_pick_17 ?_
  refine v_goto C 22 dX6_pick_18 (by decide) ?_
  refine v_invVI C (As := [.int (iI (1))]) (q0 := 0) (ci := 6) (kX6_fails_p l g (mm := mm) (b1 := b1) (b2 := b2) (b3 := b3) (b4 := b4) (b5 := b5) (b6 := b6) (b7 := b7) (b8 := b8) (b9 := b9) (b10 := b10) (b11 := b11) (b12 := b12) (b13 := b13) (b14 := b14) (b15 := b15) (b16 := b16) (b17 := b17) (kinds := kinds) (tgs := tgs) (first := first) (second := second) (vals := vals) (qs := qs) (hds := hds) (An := An) (qi := qi) (qo := qo) (Tm := Tm) (Nw := Nw) (Kw := Kw) (ni := ni) (bc := bc) (cm := cm) (cn := cn) (qc := qc) (cd := cd) (ris := ris) (q := 1) (by decide)) (cwV 1 C.2.2.2.2.1 gX6_pick_X6_fails rfl rfl rfl (by decide +kernel) ⟨Nat.le_of_ble_eq_true rfl, Nat.le_of_ble_eq_true rfl⟩) [wMM g mm b1 b2 b3 b4 b5 b6 b7 b8 b9 b10 b11 b12 b13 b14 b15 b16 b17 kinds ni cm first second An An Tm Tm bc hds tgs qc qi qo qs cn vals Nw Nw Kw Kw cd] [0] [] [] (fun _ => [wMM g mm b1 b2 b3 b4 b5 b6 b7 b8 b9 b10 b11 b12 b13 b14 b15 b16 b17 kinds ni cm first second An An Tm Tm bc hds tgs qc qi qo qs cn vals Nw Nw Kw Kw 1]) (fun _ => wMM g mm b1 b2 b3 b4 b5 b6 b7 b8 b9 b10 b11 b12 b13 b14 b15 b16 b17 kinds ni cm first second An An Tm Tm bc hds tgs qc qi qo qs cn vals Nw Nw Kw Kw 1 ++ ([])) rfl rfl rfl (fun _ => rfl) (fun _ => rfl) (fun _ => rfl) (fun _ => rfl) rfl rfl rfl rfl rfl (Nat.le_of_ble_eq_true rfl) dX6_pick_22 ⟨by decide, by decide⟩ (fun r_4 _ h_3 => ?_)
  subst h_3
  refine v_ifz_eq C 30 dX6_pick_25 (by decide) (fun h => nomatch h) (fun _ => ?_)
  refine v_iconst C (z := 0) dX6_pick_28 ?_
  exact (v_iret C hr hl () (by decide) (by decide) rfl trivial dX6_pick_29)
set_option maxHeartbeats 4000000 in
set_option maxRecDepth 100000 in
theorem kX6_pick_b (l : Launch) (g : vG) {mm b1 b2 b3 b4 b5 b6 b7 b8 b9 b10 b11 b12 b13 b14 b15 b16 b17 : Nat} {kinds tgs first second vals qs : Nat → Int} {hds An qi qo Tm Nw Kw ris : Nat → Nat} {ni bc cm cn qc cd : Nat} {x0 : Nat} {y : Int} (hI : MI vals ris cn kinds tgs first second qs hds An qi qo Tm ni bc cm qc) (hx0 : x0 < bc) (hy : b31 y) (hqy : ¬ (0 ≤ y ∧ y < ((cm : Nat) : Int)))  : mI l g yX6_pick wsX6_pick ({ frames := 2, cells := 0, slots := 0, locals := 43 }) [.ref (mm), .int (iI ((x0 : Nat) : Int)), .int (iI (y))] (wMM g mm b1 b2 b3 b4 b5 b6 b7 b8 b9 b10 b11 b12 b13 b14 b15 b16 b17 kinds ni cm first second An An Tm Tm bc hds tgs qc qi qo qs cn vals Nw Nw Kw Kw cd ++ ([])) (fun _ : Unit => wMM g mm b1 b2 b3 b4 b5 b6 b7 b8 b9 b10 b11 b12 b13 b14 b15 b16 b17 kinds ni cm first second An An Tm Tm bc hds tgs qc qi qo qs cn vals Nw Nw Kw Kw 1 ++ ([])) (fun _ _ => True) 0 0 := by
  refine mI_of (cc := cX6_pick) (maxL := 7) (ret := (some .int)) (own := RX6) (by decide) rfl rfl (Nat.le_of_ble_eq_true rfl) ?_
  intro p e s m args below meth c A C hr hl hin
  obtain ⟨hni, hbc1, hbc, hcm1, hcm, hcn1, hnm, hqc, hhd, htg, hf, hs, hfc, hsc, hAn, hTm, hao, hpal, hqb, hqi, htk, hkd⟩ := id hI
  have hy1 := hy.1
  have hy2 := hy.2
  refine v_aload_n C dX6_pick_0 rfl 0 rfl ?_
  refine v_aload_n C dX6_pick_1 rfl 0 rfl ?_
  refine v_iload_n C dX6_pick_2 rfl 1 rfl ?_
  refine v_invVI C (As := [.int (iI ((x0 : Nat) : Int))]) (q0 := 0) (ci := 6) (kX6_isNoBranch_in l g (mm := mm) (b1 := b1) (b2 := b2) (b3 := b3) (b4 := b4) (b5 := b5) (b6 := b6) (b7 := b7) (b8 := b8) (b9 := b9) (b10 := b10) (b11 := b11) (b12 := b12) (b13 := b13) (b14 := b14) (b15 := b15) (b16 := b16) (b17 := b17) (kinds := kinds) (tgs := tgs) (first := first) (second := second) (vals := vals) (qs := qs) (hds := hds) (An := An) (qi := qi) (qo := qo) (Tm := Tm) (Nw := Nw) (Kw := Kw) (ni := ni) (bc := bc) (cm := cm) (cn := cn) (qc := qc) (cd := cd) (ris := ris) (i0 := x0) (by omega) (by omega)) (cwV 1 C.2.2.2.2.1 gX6_pick_X6_isNoBranch rfl rfl rfl (by decide +kernel) ⟨Nat.le_of_ble_eq_true rfl, Nat.le_of_ble_eq_true rfl⟩) [wMM g mm b1 b2 b3 b4 b5 b6 b7 b8 b9 b10 b11 b12 b13 b14 b15 b16 b17 kinds ni cm first second An An Tm Tm bc hds tgs qc qi qo qs cn vals Nw Nw Kw Kw cd] [0] [] [.ref (mm)] (fun _ => [wMM g mm b1 b2 b3 b4 b5 b6 b7 b8 b9 b10 b11 b12 b13 b14 b15 b16 b17 kinds ni cm first second An An Tm Tm bc hds tgs qc qi qo qs cn vals Nw Nw Kw Kw cd]) (fun _ => wMM g mm b1 b2 b3 b4 b5 b6 b7 b8 b9 b10 b11 b12 b13 b14 b15 b16 b17 kinds ni cm first second An An Tm Tm bc hds tgs qc qi qo qs cn vals Nw Nw Kw Kw cd ++ ([])) rfl rfl rfl (fun _ => rfl) (fun _ => rfl) (fun _ => rfl) (fun _ => rfl) rfl rfl rfl rfl rfl (Nat.le_of_ble_eq_true rfl) dX6_pick_3 ⟨by decide, by decide⟩ (fun r_2 _ h_1 => ?_)
  subst h_1
  refine v_ifz_ne C 17 dX6_pick_6 (by decide) (fun h => nomatch h) (fun _ => ?_)
  refine v_aload_n C dX6_pick_9 rfl 0 rfl ?_
  refine v_iload_n C dX6_pick_10 rfl 2 rfl ?_
  refine v_invVI C (As := [.int (iI (y))]) (q0 := 0) (ci := 6) (kX6_isNoCommit_out l g (mm := mm) (b1 := b1) (b2 := b2) (b3 := b3) (b4 := b4) (b5 := b5) (b6 := b6) (b7 := b7) (b8 := b8) (b9 := b9) (b10 := b10) (b11 := b11) (b12 := b12) (b13 := b13) (b14 := b14) (b15 := b15) (b16 := b16) (b17 := b17) (kinds := kinds) (tgs := tgs) (first := first) (second := second) (vals := vals) (qs := qs) (hds := hds) (An := An) (qi := qi) (qo := qo) (Tm := Tm) (Nw := Nw) (Kw := Kw) (ni := ni) (bc := bc) (cm := cm) (cn := cn) (qc := qc) (cd := cd) (ris := ris) (x := y) ⟨by omega, by omega⟩ (by omega) (by omega)) (cwV 1 C.2.2.2.2.1 gX6_pick_X6_isNoCommit rfl rfl rfl (by decide +kernel) ⟨Nat.le_of_ble_eq_true rfl, Nat.le_of_ble_eq_true rfl⟩) [wMM g mm b1 b2 b3 b4 b5 b6 b7 b8 b9 b10 b11 b12 b13 b14 b15 b16 b17 kinds ni cm first second An An Tm Tm bc hds tgs qc qi qo qs cn vals Nw Nw Kw Kw cd] [0] [] [.ref (mm)] (fun _ => [wMM g mm b1 b2 b3 b4 b5 b6 b7 b8 b9 b10 b11 b12 b13 b14 b15 b16 b17 kinds ni cm first second An An Tm Tm bc hds tgs qc qi qo qs cn vals Nw Nw Kw Kw cd]) (fun _ => wMM g mm b1 b2 b3 b4 b5 b6 b7 b8 b9 b10 b11 b12 b13 b14 b15 b16 b17 kinds ni cm first second An An Tm Tm bc hds tgs qc qi qo qs cn vals Nw Nw Kw Kw cd ++ ([])) rfl rfl rfl (fun _ => rfl) (fun _ => rfl) (fun _ => rfl) (fun _ => rfl) rfl rfl rfl rfl rfl (Nat.le_of_ble_eq_true rfl) dX6_pick_11 ⟨by decide, by decide⟩ (fun r_4 _ h_3 => ?_)
  subst h_3
  refine v_ifz_eq C 21 dX6_pick_14 (by decide) (fun h => nomatch h) (fun _ => ?_)
  refine v_iconst C (z := 1) dX6_pick_17 ?_
  refine v_goto C 22 dX6_pick_18 (by decide) ?_
  refine v_invVI C (As := [.int (iI (1))]) (q0 := 0) (ci := 6) (kX6_fails_p l g (mm := mm) (b1 := b1) (b2 := b2) (b3 := b3) (b4 := b4) (b5 := b5) (b6 := b6) (b7 := b7) (b8 := b8) (b9 := b9) (b10 := b10) (b11 := b11) (b12 := b12) (b13 := b13) (b14 := b14) (b15 := b15) (b16 := b16) (b17 := b17) (kinds := kinds) (tgs := tgs) (first := first) (second := second) (vals := vals) (qs := qs) (hds := hds) (An := An) (qi := qi) (qo := qo) (Tm := Tm) (Nw := Nw) (Kw := Kw) (ni := ni) (bc := bc) (cm := cm) (cn := cn) (qc := qc) (cd := cd) (ris := ris) (q := 1) (by decide)) (cwV 1 C.2.2.2.2.1 gX6_pick_X6_fails rfl rfl rfl (by decide +kernel) ⟨Nat.le_of_ble_eq_true rfl, Nat.le_of_ble_eq_true rfl⟩) [wMM g mm b1 b2 b3 b4 b5 b6 b7 b8 b9 b10 b11 b12 b13 b14 b15 b16 b17 kinds ni cm first second An An Tm Tm bc hds tgs qc qi qo qs cn vals Nw Nw Kw Kw cd] [0] [] [] (fun _ => [wMM g mm b1 b2 b3 b4 b5 b6 b7 b8 b9 b10 b11 b12 b13 b14 b15 b16 b17 kinds ni cm first second An An Tm Tm bc hds tgs qc qi qo qs cn vals Nw Nw Kw Kw 1]) (fun _ => wMM g mm b1 b2 b3 b4 b5 b6 b7 b8 b9 b10 b11 b12 b13 b14 b15 b16 b17 kinds ni cm first second An An Tm Tm bc hds tgs qc qi qo qs cn vals Nw Nw Kw Kw 1 ++ ([])) rfl rfl rfl (fun _ => rfl) (fun _ => rfl) (fun _ => rfl) (fun _ => rfl) rfl rfl rfl rfl rfl (Nat.le_of_ble_eq_true rfl) dX6_pick_22 ⟨by decide, by decide⟩ (fun r_6 _ h_5 => ?_)
  subst h_5
  refine v_ifz_eq C 30 dX6_pick_25 (by decide) (fun h => nomatch h) (fun _ => ?_)
  refine v_iconst C (z := 0) dX6_pick_28 ?_
  exact (v_iret C hr hl () (by decide) (by decide) rfl trivial dX6_pick_29)
set_option maxHeartbeats 4000000 in
set_option maxRecDepth 100000 in
theorem kX6_pick_2 (l : Launch) (g : vG) {mm b1 b2 b3 b4 b5 b6 b7 b8 b9 b10 b11 b12 b13 b14 b15 b16 b17 : Nat} {kinds tgs first second vals qs : Nat → Int} {hds An qi qo Tm Nw Kw ris : Nat → Nat} {ni bc cm cn qc cd : Nat} {x0 : Nat} {y0 : Nat} (hI : MI vals ris cn kinds tgs first second qs hds An qi qo Tm ni bc cm qc) (hx0 : x0 < bc) (hy0 : y0 < cm) (hq : ¬ pcn (first (y0)) (second (y0)) = 1) : mI l g yX6_pick wsX6_pick ({ frames := 2, cells := 0, slots := 0, locals := 43 }) [.ref (mm), .int (iI ((x0 : Nat) : Int)), .int (iI ((y0 : Nat) : Int))] (wMM g mm b1 b2 b3 b4 b5 b6 b7 b8 b9 b10 b11 b12 b13 b14 b15 b16 b17 kinds ni cm first second An An Tm Tm bc hds tgs qc qi qo qs cn vals Nw Nw Kw Kw cd ++ ([])) (fun _ : Unit => wMM g mm b1 b2 b3 b4 b5 b6 b7 b8 b9 b10 b11 b12 b13 b14 b15 b16 b17 kinds ni cm first second An An Tm Tm bc hds tgs qc qi qo qs cn vals Nw Nw Kw Kw 2 ++ ([])) (fun _ _ => True) 0 0 := by
  refine mI_of (cc := cX6_pick) (maxL := 7) (ret := (some .int)) (own := RX6) (by decide) rfl rfl (Nat.le_of_ble_eq_true rfl) ?_
  intro p e s m args below meth c A C hr hl hin
  obtain ⟨hni, hbc1, hbc, hcm1, hcm, hcn1, hnm, hqc, hhd, htg, hf, hs, hfc, hsc, hAn, hTm, hao, hpal, hqb, hqi, htk, hkd⟩ := id hI
  refine v_aload_n C dX6_pick_0 rfl 0 rfl ?_
  refine v_aload_n C dX6_pick_1 rfl 0 rfl ?_
  refine v_iload_n C dX6_pick_2 rfl 1 rfl ?_
  refine v_invVI C (As := [.int (iI ((x0 : Nat) : Int))]) (q0 := 0) (ci := 6) (kX6_isNoBranch_in l g (mm := mm) (b1 := b1) (b2 := b2) (b3 := b3) (b4 := b4) (b5 := b5) (b6 := b6) (b7 := b7) (b8 := b8) (b9 := b9) (b10 := b10) (b11 := b11) (b12 := b12) (b13 := b13) (b14 := b14) (b15 := b15) (b16 := b16) (b17 := b17) (kinds := kinds) (tgs := tgs) (first := first) (second := second) (vals := vals) (qs := qs) (hds := hds) (An := An) (qi := qi) (qo := qo) (Tm := Tm) (Nw := Nw) (Kw := Kw) (ni := ni) (bc := bc) (cm := cm) (cn := cn) (qc := qc) (cd := cd) (ris := ris) (i0 := x0) (by omega) (by omega)) (cwV 1 C.2.2.2.2.1 gX6_pick_X6_isNoBranch rfl rfl rfl (by decide +kernel) ⟨Nat.le_of_ble_eq_true rfl, Nat.le_of_ble_eq_true rfl⟩) [wMM g mm b1 b2 b3 b4 b5 b6 b7 b8 b9 b10 b11 b12 b13 b14 b15 b16 b17 kinds ni cm first second An An Tm Tm bc hds tgs qc qi qo qs cn vals Nw Nw Kw Kw cd] [0] [] [.ref (mm)] (fun _ => [wMM g mm b1 b2 b3 b4 b5 b6 b7 b8 b9 b10 b11 b12 b13 b14 b15 b16 b17 kinds ni cm first second An An Tm Tm bc hds tgs qc qi qo qs cn vals Nw Nw Kw Kw cd]) (fun _ => wMM g mm b1 b2 b3 b4 b5 b6 b7 b8 b9 b10 b11 b12 b13 b14 b15 b16 b17 kinds ni cm first second An An Tm Tm bc hds tgs qc qi qo qs cn vals Nw Nw Kw Kw cd ++ ([])) rfl rfl rfl (fun _ => rfl) (fun _ => rfl) (fun _ => rfl) (fun _ => rfl) rfl rfl rfl rfl rfl (Nat.le_of_ble_eq_true rfl) dX6_pick_3 ⟨by decide, by decide⟩ (fun r_2 _ h_1 => ?_)
  subst h_1
  refine v_ifz_ne C 17 dX6_pick_6 (by decide) (fun h => nomatch h) (fun _ => ?_)
  refine v_aload_n C dX6_pick_9 rfl 0 rfl ?_
  refine v_iload_n C dX6_pick_10 rfl 2 rfl ?_
  refine v_invVI C (As := [.int (iI ((y0 : Nat) : Int))]) (q0 := 0) (ci := 6) (kX6_isNoCommit_in l g (mm := mm) (b1 := b1) (b2 := b2) (b3 := b3) (b4 := b4) (b5 := b5) (b6 := b6) (b7 := b7) (b8 := b8) (b9 := b9) (b10 := b10) (b11 := b11) (b12 := b12) (b13 := b13) (b14 := b14) (b15 := b15) (b16 := b16) (b17 := b17) (kinds := kinds) (tgs := tgs) (first := first) (second := second) (vals := vals) (qs := qs) (hds := hds) (An := An) (qi := qi) (qo := qo) (Tm := Tm) (Nw := Nw) (Kw := Kw) (ni := ni) (bc := bc) (cm := cm) (cn := cn) (qc := qc) (cd := cd) (ris := ris) (i0 := y0) (by omega) (by omega)) (cwV 1 C.2.2.2.2.1 gX6_pick_X6_isNoCommit rfl rfl rfl (by decide +kernel) ⟨Nat.le_of_ble_eq_true rfl, Nat.le_of_ble_eq_true rfl⟩) [wMM g mm b1 b2 b3 b4 b5 b6 b7 b8 b9 b10 b11 b12 b13 b14 b15 b16 b17 kinds ni cm first second An An Tm Tm bc hds tgs qc qi qo qs cn vals Nw Nw Kw Kw cd] [0] [] [.ref (mm)] (fun _ => [wMM g mm b1 b2 b3 b4 b5 b6 b7 b8 b9 b10 b11 b12 b13 b14 b15 b16 b17 kinds ni cm first second An An Tm Tm bc hds tgs qc qi qo qs cn vals Nw Nw Kw Kw cd]) (fun _ => wMM g mm b1 b2 b3 b4 b5 b6 b7 b8 b9 b10 b11 b12 b13 b14 b15 b16 b17 kinds ni cm first second An An Tm Tm bc hds tgs qc qi qo qs cn vals Nw Nw Kw Kw cd ++ ([])) rfl rfl rfl (fun _ => rfl) (fun _ => rfl) (fun _ => rfl) (fun _ => rfl) rfl rfl rfl rfl rfl (Nat.le_of_ble_eq_true rfl) dX6_pick_11 ⟨by decide, by decide⟩ (fun r_4 _ h_3 => ?_)
  subst h_3
  refine v_ifz_eq C 21 dX6_pick_14 (by decide) (fun _ => ?_) (fun h => nomatch h) 
  refine v_iconst C (z := 0) dX6_pick_21 ?_
  refine v_invVI C (As := [.int (iI (0))]) (q0 := 0) (ci := 6) (kX6_fails_z l g (mm := mm) (b1 := b1) (b2 := b2) (b3 := b3) (b4 := b4) (b5 := b5) (b6 := b6) (b7 := b7) (b8 := b8) (b9 := b9) (b10 := b10) (b11 := b11) (b12 := b12) (b13 := b13) (b14 := b14) (b15 := b15) (b16 := b16) (b17 := b17) (kinds := kinds) (tgs := tgs) (first := first) (second := second) (vals := vals) (qs := qs) (hds := hds) (An := An) (qi := qi) (qo := qo) (Tm := Tm) (Nw := Nw) (Kw := Kw) (ni := ni) (bc := bc) (cm := cm) (cn := cn) (qc := qc) (cd := cd) (ris := ris)  ) (cwV 1 C.2.2.2.2.1 gX6_pick_X6_fails rfl rfl rfl (by decide +kernel) ⟨Nat.le_of_ble_eq_true rfl, Nat.le_of_ble_eq_true rfl⟩) [wMM g mm b1 b2 b3 b4 b5 b6 b7 b8 b9 b10 b11 b12 b13 b14 b15 b16 b17 kinds ni cm first second An An Tm Tm bc hds tgs qc qi qo qs cn vals Nw Nw Kw Kw cd] [0] [] [] (fun _ => [wMM g mm b1 b2 b3 b4 b5 b6 b7 b8 b9 b10 b11 b12 b13 b14 b15 b16 b17 kinds ni cm first second An An Tm Tm bc hds tgs qc qi qo qs cn vals Nw Nw Kw Kw 0]) (fun _ => wMM g mm b1 b2 b3 b4 b5 b6 b7 b8 b9 b10 b11 b12 b13 b14 b15 b16 b17 kinds ni cm first second An An Tm Tm bc hds tgs qc qi qo qs cn vals Nw Nw Kw Kw 0 ++ ([])) rfl rfl rfl (fun _ => rfl) (fun _ => rfl) (fun _ => rfl) (fun _ => rfl) rfl rfl rfl rfl rfl (Nat.le_of_ble_eq_true rfl) dX6_pick_22 ⟨by decide, by decide⟩ (fun r_6 _ h_5 => ?_)
  subst h_5
  refine v_ifz_eq C 30 dX6_pick_25 (by decide) (fun _ => ?_) (fun h => nomatch h) 
  refine v_aload_n C dX6_pick_30 rfl 0 rfl ?_
  refine v_aload_n C dX6_pick_31 rfl 0 rfl ?_
  refine v_iload_n C dX6_pick_32 rfl 2 rfl ?_
  refine v_invVI C (As := [.int (iI ((y0 : Nat) : Int))]) (q0 := 0) (ci := 6) (kX6_parentsOf l g (mm := mm) (b1 := b1) (b2 := b2) (b3 := b3) (b4 := b4) (b5 := b5) (b6 := b6) (b7 := b7) (b8 := b8) (b9 := b9) (b10 := b10) (b11 := b11) (b12 := b12) (b13 := b13) (b14 := b14) (b15 := b15) (b16 := b16) (b17 := b17) (kinds := kinds) (tgs := tgs) (first := first) (second := second) (vals := vals) (qs := qs) (hds := hds) (An := An) (qi := qi) (qo := qo) (Tm := Tm) (Nw := Nw) (Kw := Kw) (ni := ni) (bc := bc) (cm := cm) (cn := cn) (qc := qc) (cd := 0) (ris := ris) (c0 := y0) (by omega) hf hs) (cwV 1 C.2.2.2.2.1 gX6_pick_X6_parentsOf rfl rfl rfl (by decide +kernel) ⟨Nat.le_of_ble_eq_true rfl, Nat.le_of_ble_eq_true rfl⟩) [wMM g mm b1 b2 b3 b4 b5 b6 b7 b8 b9 b10 b11 b12 b13 b14 b15 b16 b17 kinds ni cm first second An An Tm Tm bc hds tgs qc qi qo qs cn vals Nw Nw Kw Kw 0] [0] [] [.ref (mm)] (fun _ => [wMM g mm b1 b2 b3 b4 b5 b6 b7 b8 b9 b10 b11 b12 b13 b14 b15 b16 b17 kinds ni cm first second An An Tm Tm bc hds tgs qc qi qo qs cn vals Nw Nw Kw Kw 0]) (fun _ => wMM g mm b1 b2 b3 b4 b5 b6 b7 b8 b9 b10 b11 b12 b13 b14 b15 b16 b17 kinds ni cm first second An An Tm Tm bc hds tgs qc qi qo qs cn vals Nw Nw Kw Kw 0 ++ ([])) rfl rfl rfl (fun _ => rfl) (fun _ => rfl) (fun _ => rfl) (fun _ => rfl) rfl rfl rfl rfl rfl (Nat.le_of_ble_eq_true rfl) dX6_pick_33 ⟨by decide, by decide⟩ (fun r_8 _ h_7 => ?_)
  subst h_7
  refine v_iconst C (z := 1) dX6_pick_36 ?_
  refine v_icmp_eq C 44 dX6_pick_37 (by decide) (pcn31 _ _) (b31_lit _ rfl) (fun c_9 => ?_) (fun c_9 => ?_)
  ·
    exfalso; omega
  ·
    refine v_iconst C (z := 2) dX6_pick_40 ?_
    refine v_goto C 50 dX6_pick_41 (by decide) ?_
    refine v_invVI C (As := [.int (iI (2))]) (q0 := 0) (ci := 6) (kX6_fails_p l g (mm := mm) (b1 := b1) (b2 := b2) (b3 := b3) (b4 := b4) (b5 := b5) (b6 := b6) (b7 := b7) (b8 := b8) (b9 := b9) (b10 := b10) (b11 := b11) (b12 := b12) (b13 := b13) (b14 := b14) (b15 := b15) (b16 := b16) (b17 := b17) (kinds := kinds) (tgs := tgs) (first := first) (second := second) (vals := vals) (qs := qs) (hds := hds) (An := An) (qi := qi) (qo := qo) (Tm := Tm) (Nw := Nw) (Kw := Kw) (ni := ni) (bc := bc) (cm := cm) (cn := cn) (qc := qc) (cd := 0) (ris := ris) (q := 2) (by decide)) (cwV 1 C.2.2.2.2.1 gX6_pick_X6_fails rfl rfl rfl (by decide +kernel) ⟨Nat.le_of_ble_eq_true rfl, Nat.le_of_ble_eq_true rfl⟩) [wMM g mm b1 b2 b3 b4 b5 b6 b7 b8 b9 b10 b11 b12 b13 b14 b15 b16 b17 kinds ni cm first second An An Tm Tm bc hds tgs qc qi qo qs cn vals Nw Nw Kw Kw 0] [0] [] [] (fun _ => [wMM g mm b1 b2 b3 b4 b5 b6 b7 b8 b9 b10 b11 b12 b13 b14 b15 b16 b17 kinds ni cm first second An An Tm Tm bc hds tgs qc qi qo qs cn vals Nw Nw Kw Kw 2]) (fun _ => wMM g mm b1 b2 b3 b4 b5 b6 b7 b8 b9 b10 b11 b12 b13 b14 b15 b16 b17 kinds ni cm first second An An Tm Tm bc hds tgs qc qi qo qs cn vals Nw Nw Kw Kw 2 ++ ([])) rfl rfl rfl (fun _ => rfl) (fun _ => rfl) (fun _ => rfl) (fun _ => rfl) rfl rfl rfl rfl rfl (Nat.le_of_ble_eq_true rfl) dX6_pick_50 ⟨by decide, by decide⟩ (fun r_11 _ h_10 => ?_)
    subst h_10
    refine v_ifz_eq C 58 dX6_pick_53 (by decide) (fun h => nomatch h) (fun _ => ?_)
    refine v_iconst C (z := 0) dX6_pick_56 ?_
    exact (v_iret C hr hl () (by decide) (by decide) rfl trivial dX6_pick_57)
set_option maxHeartbeats 4000000 in
set_option maxRecDepth 100000 in
theorem kX6_pick_3 (l : Launch) (g : vG) {mm b1 b2 b3 b4 b5 b6 b7 b8 b9 b10 b11 b12 b13 b14 b15 b16 b17 : Nat} {kinds tgs first second vals qs : Nat → Int} {hds An qi qo Tm Nw Kw ris : Nat → Nat} {ni bc cm cn qc cd : Nat} {x0 : Nat} {y0 : Nat} (hI : MI vals ris cn kinds tgs first second qs hds An qi qo Tm ni bc cm qc) (hx0 : x0 < bc) (hy0 : y0 < cm) (hq : pcn (first (y0)) (second (y0)) = 1) (hcf : cm = 100) : mI l g yX6_pick wsX6_pick ({ frames := 2, cells := 0, slots := 0, locals := 43 }) [.ref (mm), .int (iI ((x0 : Nat) : Int)), .int (iI ((y0 : Nat) : Int))] (wMM g mm b1 b2 b3 b4 b5 b6 b7 b8 b9 b10 b11 b12 b13 b14 b15 b16 b17 kinds ni cm first second An An Tm Tm bc hds tgs qc qi qo qs cn vals Nw Nw Kw Kw cd ++ ([])) (fun _ : Unit => wMM g mm b1 b2 b3 b4 b5 b6 b7 b8 b9 b10 b11 b12 b13 b14 b15 b16 b17 kinds ni cm first second An An Tm Tm bc hds tgs qc qi qo qs cn vals Nw Nw Kw Kw 3 ++ ([])) (fun _ _ => True) 0 0 := by
  refine mI_of (cc := cX6_pick) (maxL := 7) (ret := (some .int)) (own := RX6) (by decide) rfl rfl (Nat.le_of_ble_eq_true rfl) ?_
  intro p e s m args below meth c A C hr hl hin
  obtain ⟨hni, hbc1, hbc, hcm1, hcm, hcn1, hnm, hqc, hhd, htg, hf, hs, hfc, hsc, hAn, hTm, hao, hpal, hqb, hqi, htk, hkd⟩ := id hI
  refine v_aload_n C dX6_pick_0 rfl 0 rfl ?_
  refine v_aload_n C dX6_pick_1 rfl 0 rfl ?_
  refine v_iload_n C dX6_pick_2 rfl 1 rfl ?_
  refine v_invVI C (As := [.int (iI ((x0 : Nat) : Int))]) (q0 := 0) (ci := 6) (kX6_isNoBranch_in l g (mm := mm) (b1 := b1) (b2 := b2) (b3 := b3) (b4 := b4) (b5 := b5) (b6 := b6) (b7 := b7) (b8 := b8) (b9 := b9) (b10 := b10) (b11 := b11) (b12 := b12) (b13 := b13) (b14 := b14) (b15 := b15) (b16 := b16) (b17 := b17) (kinds := kinds) (tgs := tgs) (first := first) (second := second) (vals := vals) (qs := qs) (hds := hds) (An := An) (qi := qi) (qo := qo) (Tm := Tm) (Nw := Nw) (Kw := Kw) (ni := ni) (bc := bc) (cm := cm) (cn := cn) (qc := qc) (cd := cd) (ris := ris) (i0 := x0) (by omega) (by omega)) (cwV 1 C.2.2.2.2.1 gX6_pick_X6_isNoBranch rfl rfl rfl (by decide +kernel) ⟨Nat.le_of_ble_eq_true rfl, Nat.le_of_ble_eq_true rfl⟩) [wMM g mm b1 b2 b3 b4 b5 b6 b7 b8 b9 b10 b11 b12 b13 b14 b15 b16 b17 kinds ni cm first second An An Tm Tm bc hds tgs qc qi qo qs cn vals Nw Nw Kw Kw cd] [0] [] [.ref (mm)] (fun _ => [wMM g mm b1 b2 b3 b4 b5 b6 b7 b8 b9 b10 b11 b12 b13 b14 b15 b16 b17 kinds ni cm first second An An Tm Tm bc hds tgs qc qi qo qs cn vals Nw Nw Kw Kw cd]) (fun _ => wMM g mm b1 b2 b3 b4 b5 b6 b7 b8 b9 b10 b11 b12 b13 b14 b15 b16 b17 kinds ni cm first second An An Tm Tm bc hds tgs qc qi qo qs cn vals Nw Nw Kw Kw cd ++ ([])) rfl rfl rfl (fun _ => rfl) (fun _ => rfl) (fun _ => rfl) (fun _ => rfl) rfl rfl rfl rfl rfl (Nat.le_of_ble_eq_true rfl) dX6_pick_3 ⟨by decide, by decide⟩ (fun r_2 _ h_1 => ?_)
  subst h_1
  refine v_ifz_ne C 17 dX6_pick_6 (by decide) (fun h => nomatch h) (fun _ => ?_)
  refine v_aload_n C dX6_pick_9 rfl 0 rfl ?_
  refine v_iload_n C dX6_pick_10 rfl 2 rfl ?_
  refine v_invVI C (As := [.int (iI ((y0 : Nat) : Int))]) (q0 := 0) (ci := 6) (kX6_isNoCommit_in l g (mm := mm) (b1 := b1) (b2 := b2) (b3 := b3) (b4 := b4) (b5 := b5) (b6 := b6) (b7 := b7) (b8 := b8) (b9 := b9) (b10 := b10) (b11 := b11) (b12 := b12) (b13 := b13) (b14 := b14) (b15 := b15) (b16 := b16) (b17 := b17) (kinds := kinds) (tgs := tgs) (first := first) (second := second) (vals := vals) (qs := qs) (hds := hds) (An := An) (qi := qi) (qo := qo) (Tm := Tm) (Nw := Nw) (Kw := Kw) (ni := ni) (bc := bc) (cm := cm) (cn := cn) (qc := qc) (cd := cd) (ris := ris) (i0 := y0) (by omega) (by omega)) (cwV 1 C.2.2.2.2.1 gX6_pick_X6_isNoCommit rfl rfl rfl (by decide +kernel) ⟨Nat.le_of_ble_eq_true rfl, Nat.le_of_ble_eq_true rfl⟩) [wMM g mm b1 b2 b3 b4 b5 b6 b7 b8 b9 b10 b11 b12 b13 b14 b15 b16 b17 kinds ni cm first second An An Tm Tm bc hds tgs qc qi qo qs cn vals Nw Nw Kw Kw cd] [0] [] [.ref (mm)] (fun _ => [wMM g mm b1 b2 b3 b4 b5 b6 b7 b8 b9 b10 b11 b12 b13 b14 b15 b16 b17 kinds ni cm first second An An Tm Tm bc hds tgs qc qi qo qs cn vals Nw Nw Kw Kw cd]) (fun _ => wMM g mm b1 b2 b3 b4 b5 b6 b7 b8 b9 b10 b11 b12 b13 b14 b15 b16 b17 kinds ni cm first second An An Tm Tm bc hds tgs qc qi qo qs cn vals Nw Nw Kw Kw cd ++ ([])) rfl rfl rfl (fun _ => rfl) (fun _ => rfl) (fun _ => rfl) (fun _ => rfl) rfl rfl rfl rfl rfl (Nat.le_of_ble_eq_true rfl) dX6_pick_11 ⟨by decide, by decide⟩ (fun r_4 _ h_3 => ?_)
  subst h_3
  refine v_ifz_eq C 21 dX6_pick_14 (by decide) (fun _ => ?_) (fun h => nomatch h) 
  refine v_iconst C (z := 0) dX6_pick_21 ?_
  refine v_invVI C (As := [.int (iI (0))]) (q0 := 0) (ci := 6) (kX6_fails_z l g (mm := mm) (b1 := b1) (b2 := b2) (b3 := b3) (b4 := b4) (b5 := b5) (b6 := b6) (b7 := b7) (b8 := b8) (b9 := b9) (b10 := b10) (b11 := b11) (b12 := b12) (b13 := b13) (b14 := b14) (b15 := b15) (b16 := b16) (b17 := b17) (kinds := kinds) (tgs := tgs) (first := first) (second := second) (vals := vals) (qs := qs) (hds := hds) (An := An) (qi := qi) (qo := qo) (Tm := Tm) (Nw := Nw) (Kw := Kw) (ni := ni) (bc := bc) (cm := cm) (cn := cn) (qc := qc) (cd := cd) (ris := ris)  ) (cwV 1 C.2.2.2.2.1 gX6_pick_X6_fails rfl rfl rfl (by decide +kernel) ⟨Nat.le_of_ble_eq_true rfl, Nat.le_of_ble_eq_true rfl⟩) [wMM g mm b1 b2 b3 b4 b5 b6 b7 b8 b9 b10 b11 b12 b13 b14 b15 b16 b17 kinds ni cm first second An An Tm Tm bc hds tgs qc qi qo qs cn vals Nw Nw Kw Kw cd] [0] [] [] (fun _ => [wMM g mm b1 b2 b3 b4 b5 b6 b7 b8 b9 b10 b11 b12 b13 b14 b15 b16 b17 kinds ni cm first second An An Tm Tm bc hds tgs qc qi qo qs cn vals Nw Nw Kw Kw 0]) (fun _ => wMM g mm b1 b2 b3 b4 b5 b6 b7 b8 b9 b10 b11 b12 b13 b14 b15 b16 b17 kinds ni cm first second An An Tm Tm bc hds tgs qc qi qo qs cn vals Nw Nw Kw Kw 0 ++ ([])) rfl rfl rfl (fun _ => rfl) (fun _ => rfl) (fun _ => rfl) (fun _ => rfl) rfl rfl rfl rfl rfl (Nat.le_of_ble_eq_true rfl) dX6_pick_22 ⟨by decide, by decide⟩ (fun r_6 _ h_5 => ?_)
  subst h_5
  refine v_ifz_eq C 30 dX6_pick_25 (by decide) (fun _ => ?_) (fun h => nomatch h) 
  refine v_aload_n C dX6_pick_30 rfl 0 rfl ?_
  refine v_aload_n C dX6_pick_31 rfl 0 rfl ?_
  refine v_iload_n C dX6_pick_32 rfl 2 rfl ?_
  refine v_invVI C (As := [.int (iI ((y0 : Nat) : Int))]) (q0 := 0) (ci := 6) (kX6_parentsOf l g (mm := mm) (b1 := b1) (b2 := b2) (b3 := b3) (b4 := b4) (b5 := b5) (b6 := b6) (b7 := b7) (b8 := b8) (b9 := b9) (b10 := b10) (b11 := b11) (b12 := b12) (b13 := b13) (b14 := b14) (b15 := b15) (b16 := b16) (b17 := b17) (kinds := kinds) (tgs := tgs) (first := first) (second := second) (vals := vals) (qs := qs) (hds := hds) (An := An) (qi := qi) (qo := qo) (Tm := Tm) (Nw := Nw) (Kw := Kw) (ni := ni) (bc := bc) (cm := cm) (cn := cn) (qc := qc) (cd := 0) (ris := ris) (c0 := y0) (by omega) hf hs) (cwV 1 C.2.2.2.2.1 gX6_pick_X6_parentsOf rfl rfl rfl (by decide +kernel) ⟨Nat.le_of_ble_eq_true rfl, Nat.le_of_ble_eq_true rfl⟩) [wMM g mm b1 b2 b3 b4 b5 b6 b7 b8 b9 b10 b11 b12 b13 b14 b15 b16 b17 kinds ni cm first second An An Tm Tm bc hds tgs qc qi qo qs cn vals Nw Nw Kw Kw 0] [0] [] [.ref (mm)] (fun _ => [wMM g mm b1 b2 b3 b4 b5 b6 b7 b8 b9 b10 b11 b12 b13 b14 b15 b16 b17 kinds ni cm first second An An Tm Tm bc hds tgs qc qi qo qs cn vals Nw Nw Kw Kw 0]) (fun _ => wMM g mm b1 b2 b3 b4 b5 b6 b7 b8 b9 b10 b11 b12 b13 b14 b15 b16 b17 kinds ni cm first second An An Tm Tm bc hds tgs qc qi qo qs cn vals Nw Nw Kw Kw 0 ++ ([])) rfl rfl rfl (fun _ => rfl) (fun _ => rfl) (fun _ => rfl) (fun _ => rfl) rfl rfl rfl rfl rfl (Nat.le_of_ble_eq_true rfl) dX6_pick_33 ⟨by decide, by decide⟩ (fun r_8 _ h_7 => ?_)
  subst h_7
  refine v_iconst C (z := 1) dX6_pick_36 ?_
  refine v_icmp_eq C 44 dX6_pick_37 (by decide) (pcn31 _ _) (b31_lit _ rfl) (fun c_9 => ?_) (fun c_9 => ?_)
  ·
    refine v_iconst C (z := 3) dX6_pick_44 ?_
    refine v_aload_n C dX6_pick_45 rfl 0 rfl ?_
    refine v_invVI C (As := []) (q0 := 0) (ci := 6) (kX6_full_y l g (mm := mm) (b1 := b1) (b2 := b2) (b3 := b3) (b4 := b4) (b5 := b5) (b6 := b6) (b7 := b7) (b8 := b8) (b9 := b9) (b10 := b10) (b11 := b11) (b12 := b12) (b13 := b13) (b14 := b14) (b15 := b15) (b16 := b16) (b17 := b17) (kinds := kinds) (tgs := tgs) (first := first) (second := second) (vals := vals) (qs := qs) (hds := hds) (An := An) (qi := qi) (qo := qo) (Tm := Tm) (Nw := Nw) (Kw := Kw) (ni := ni) (bc := bc) (cm := cm) (cn := cn) (qc := qc) (cd := 0) (ris := ris)  (by omega)) (cwV 0 C.2.2.2.2.1 gX6_pick_X6_full rfl rfl rfl (by decide +kernel) ⟨Nat.le_of_ble_eq_true rfl, Nat.le_of_ble_eq_true rfl⟩) [wMM g mm b1 b2 b3 b4 b5 b6 b7 b8 b9 b10 b11 b12 b13 b14 b15 b16 b17 kinds ni cm first second An An Tm Tm bc hds tgs qc qi qo qs cn vals Nw Nw Kw Kw 0] [0] [] [.int (iI (3)), .ref (mm)] (fun _ => [wMM g mm b1 b2 b3 b4 b5 b6 b7 b8 b9 b10 b11 b12 b13 b14 b15 b16 b17 kinds ni cm first second An An Tm Tm bc hds tgs qc qi qo qs cn vals Nw Nw Kw Kw 0]) (fun _ => wMM g mm b1 b2 b3 b4 b5 b6 b7 b8 b9 b10 b11 b12 b13 b14 b15 b16 b17 kinds ni cm first second An An Tm Tm bc hds tgs qc qi qo qs cn vals Nw Nw Kw Kw 0 ++ ([])) rfl rfl rfl (fun _ => rfl) (fun _ => rfl) (fun _ => rfl) (fun _ => rfl) rfl rfl rfl rfl rfl (Nat.le_of_ble_eq_true rfl) dX6_pick_46 ⟨by decide, by decide⟩ (fun r_11 _ h_10 => ?_)
    subst h_10
    refine v_imul C dX6_pick_49 ?_
    refine v_st (st' := [.int (iI (3)), .ref (mm)]) rfl ?_
    refine v_invVI C (As := [.int (iI (3))]) (q0 := 0) (ci := 6) (kX6_fails_p l g (mm := mm) (b1 := b1) (b2 := b2) (b3 := b3) (b4 := b4) (b5 := b5) (b6 := b6) (b7 := b7) (b8 := b8) (b9 := b9) (b10 := b10) (b11 := b11) (b12 := b12) (b13 := b13) (b14 := b14) (b15 := b15) (b16 := b16) (b17 := b17) (kinds := kinds) (tgs := tgs) (first := first) (second := second) (vals := vals) (qs := qs) (hds := hds) (An := An) (qi := qi) (qo := qo) (Tm := Tm) (Nw := Nw) (Kw := Kw) (ni := ni) (bc := bc) (cm := cm) (cn := cn) (qc := qc) (cd := 0) (ris := ris) (q := 3) (by decide)) (cwV 1 C.2.2.2.2.1 gX6_pick_X6_fails rfl rfl rfl (by decide +kernel) ⟨Nat.le_of_ble_eq_true rfl, Nat.le_of_ble_eq_true rfl⟩) [wMM g mm b1 b2 b3 b4 b5 b6 b7 b8 b9 b10 b11 b12 b13 b14 b15 b16 b17 kinds ni cm first second An An Tm Tm bc hds tgs qc qi qo qs cn vals Nw Nw Kw Kw 0] [0] [] [] (fun _ => [wMM g mm b1 b2 b3 b4 b5 b6 b7 b8 b9 b10 b11 b12 b13 b14 b15 b16 b17 kinds ni cm first second An An Tm Tm bc hds tgs qc qi qo qs cn vals Nw Nw Kw Kw 3]) (fun _ => wMM g mm b1 b2 b3 b4 b5 b6 b7 b8 b9 b10 b11 b12 b13 b14 b15 b16 b17 kinds ni cm first second An An Tm Tm bc hds tgs qc qi qo qs cn vals Nw Nw Kw Kw 3 ++ ([])) rfl rfl rfl (fun _ => rfl) (fun _ => rfl) (fun _ => rfl) (fun _ => rfl) rfl rfl rfl rfl rfl (Nat.le_of_ble_eq_true rfl) dX6_pick_50 ⟨by decide, by decide⟩ (fun r_13 _ h_12 => ?_)
    subst h_12
    refine v_ifz_eq C 58 dX6_pick_53 (by decide) (fun h => nomatch h) (fun _ => ?_)
    refine v_iconst C (z := 0) dX6_pick_56 ?_
    exact (v_iret C hr hl () (by decide) (by decide) rfl trivial dX6_pick_57)
  ·
    exfalso; omega
theorem inX6_quote_6 : ∀ w ∈ u_ws RX6 TX6 23, w ∈ wsX6_quote := by decide +kernel
theorem lkX6_quote_175 : Cond.fieldLink RX6 175 "MergeAtelierModel" "quotes" "I" ∈ wsX6_quote := by decide +kernel
theorem lkX6_quote_46 : Cond.fieldLink RX6 46 "MergeAtelierModel" "quoteItems" "[I" ∈ wsX6_quote := by decide +kernel
theorem lkX6_quote_49 : Cond.fieldLink RX6 49 "MergeAtelierModel" "quoteOthers" "[I" ∈ wsX6_quote := by decide +kernel
theorem lkX6_quote_52 : Cond.fieldLink RX6 52 "MergeAtelierModel" "shifts" "[I" ∈ wsX6_quote := by decide +kernel
set_option maxHeartbeats 4000000 in
set_option maxRecDepth 100000 in
theorem kX6_quote_ok (l : Launch) (g : vG) {mm b1 b2 b3 b4 b5 b6 b7 b8 b9 b10 b11 b12 b13 b14 b15 b16 b17 : Nat} {kinds tgs first second vals qs : Nat → Int} {hds An qi qo Tm Nw Kw ris : Nat → Nat} {ni bc cm cn qc cd : Nat} {x0 : Nat} {y0 : Nat} {z : Int} (hI : MI vals ris cn kinds tgs first second qs hds An qi qo Tm ni bc cm qc) (hx0 : x0 < ni) (hy0 : y0 < ni) (hz : b31 z) (hne : ¬ x0 = y0) (hz3 : -99 ≤ z) (hz4 : z ≤ 99) (hqn : qc < 10) : mI l g yX6_quote wsX6_quote ({ frames := 2, cells := 0, slots := 0, locals := 43 }) [.ref (mm), .int (iI ((x0 : Nat) : Int)), .int (iI ((y0 : Nat) : Int)), .int (iI (z))] (wMM g mm b1 b2 b3 b4 b5 b6 b7 b8 b9 b10 b11 b12 b13 b14 b15 b16 b17 kinds ni cm first second An An Tm Tm bc hds tgs qc qi qo qs cn vals Nw Nw Kw Kw cd ++ ([])) (fun _ : Unit => wMM g mm b1 b2 b3 b4 b5 b6 b7 b8 b9 b10 b11 b12 b13 b14 b15 b16 b17 kinds ni cm first second An An Tm Tm bc hds tgs (qc + 1) (updN qi (qc) (x0)) (updN qo (qc) (y0)) (updZ qs (qc) (z)) cn vals Nw Nw Kw Kw 0 ++ ([])) (fun v _ => v = iI ((qc : Nat) : Int)) 0 0 := by
  refine mI_of (cc := cX6_quote) (maxL := 4) (ret := (some .int)) (own := RX6) (by decide) rfl rfl (Nat.le_of_ble_eq_true rfl) ?_
  intro p e s m args below meth c A C hr hl hin
  obtain ⟨hni, hbc1, hbc, hcm1, hcm, hcn1, hnm, hqc, hhd, htg, hf, hs, hfc, hsc, hAn, hTm, hao, hpal, hqb, hqi, htk, hkd⟩ := id hI
  have hz1 := hz.1
  have hz2 := hz.2
  refine v_aload_n C dX6_quote_0 rfl 0 rfl ?_
  refine v_aload_n C dX6_quote_1 rfl 0 rfl ?_
  refine v_iload_n C dX6_quote_2 rfl 1 rfl ?_
  refine v_invVI C (As := [.int (iI ((x0 : Nat) : Int))]) (q0 := 0) (ci := 6) (kX6_isNoItem_in l g (mm := mm) (b1 := b1) (b2 := b2) (b3 := b3) (b4 := b4) (b5 := b5) (b6 := b6) (b7 := b7) (b8 := b8) (b9 := b9) (b10 := b10) (b11 := b11) (b12 := b12) (b13 := b13) (b14 := b14) (b15 := b15) (b16 := b16) (b17 := b17) (kinds := kinds) (tgs := tgs) (first := first) (second := second) (vals := vals) (qs := qs) (hds := hds) (An := An) (qi := qi) (qo := qo) (Tm := Tm) (Nw := Nw) (Kw := Kw) (ni := ni) (bc := bc) (cm := cm) (cn := cn) (qc := qc) (cd := cd) (ris := ris) (i0 := x0) (by omega) (by omega)) (cwV 1 C.2.2.2.2.1 gX6_quote_X6_isNoItem rfl rfl rfl (by decide +kernel) ⟨Nat.le_of_ble_eq_true rfl, Nat.le_of_ble_eq_true rfl⟩) [wMM g mm b1 b2 b3 b4 b5 b6 b7 b8 b9 b10 b11 b12 b13 b14 b15 b16 b17 kinds ni cm first second An An Tm Tm bc hds tgs qc qi qo qs cn vals Nw Nw Kw Kw cd] [0] [] [.ref (mm)] (fun _ => [wMM g mm b1 b2 b3 b4 b5 b6 b7 b8 b9 b10 b11 b12 b13 b14 b15 b16 b17 kinds ni cm first second An An Tm Tm bc hds tgs qc qi qo qs cn vals Nw Nw Kw Kw cd]) (fun _ => wMM g mm b1 b2 b3 b4 b5 b6 b7 b8 b9 b10 b11 b12 b13 b14 b15 b16 b17 kinds ni cm first second An An Tm Tm bc hds tgs qc qi qo qs cn vals Nw Nw Kw Kw cd ++ ([])) rfl rfl rfl (fun _ => rfl) (fun _ => rfl) (fun _ => rfl) (fun _ => rfl) rfl rfl rfl rfl rfl (Nat.le_of_ble_eq_true rfl) dX6_quote_3 ⟨by decide, by decide⟩ (fun r_2 _ h_1 => ?_)
  subst h_1
  refine v_ifz_ne C 17 dX6_quote_6 (by decide) (fun h => nomatch h) (fun _ => ?_)
  refine v_aload_n C dX6_quote_9 rfl 0 rfl ?_
  refine v_iload_n C dX6_quote_10 rfl 2 rfl ?_
  refine v_invVI C (As := [.int (iI ((y0 : Nat) : Int))]) (q0 := 0) (ci := 6) (kX6_isNoItem_in l g (mm := mm) (b1 := b1) (b2 := b2) (b3 := b3) (b4 := b4) (b5 := b5) (b6 := b6) (b7 := b7) (b8 := b8) (b9 := b9) (b10 := b10) (b11 := b11) (b12 := b12) (b13 := b13) (b14 := b14) (b15 := b15) (b16 := b16) (b17 := b17) (kinds := kinds) (tgs := tgs) (first := first) (second := second) (vals := vals) (qs := qs) (hds := hds) (An := An) (qi := qi) (qo := qo) (Tm := Tm) (Nw := Nw) (Kw := Kw) (ni := ni) (bc := bc) (cm := cm) (cn := cn) (qc := qc) (cd := cd) (ris := ris) (i0 := y0) (by omega) (by omega)) (cwV 1 C.2.2.2.2.1 gX6_quote_X6_isNoItem rfl rfl rfl (by decide +kernel) ⟨Nat.le_of_ble_eq_true rfl, Nat.le_of_ble_eq_true rfl⟩) [wMM g mm b1 b2 b3 b4 b5 b6 b7 b8 b9 b10 b11 b12 b13 b14 b15 b16 b17 kinds ni cm first second An An Tm Tm bc hds tgs qc qi qo qs cn vals Nw Nw Kw Kw cd] [0] [] [.ref (mm)] (fun _ => [wMM g mm b1 b2 b3 b4 b5 b6 b7 b8 b9 b10 b11 b12 b13 b14 b15 b16 b17 kinds ni cm first second An An Tm Tm bc hds tgs qc qi qo qs cn vals Nw Nw Kw Kw cd]) (fun _ => wMM g mm b1 b2 b3 b4 b5 b6 b7 b8 b9 b10 b11 b12 b13 b14 b15 b16 b17 kinds ni cm first second An An Tm Tm bc hds tgs qc qi qo qs cn vals Nw Nw Kw Kw cd ++ ([])) rfl rfl rfl (fun _ => rfl) (fun _ => rfl) (fun _ => rfl) (fun _ => rfl) rfl rfl rfl rfl rfl (Nat.le_of_ble_eq_true rfl) dX6_quote_11 ⟨by decide, by decide⟩ (fun r_4 _ h_3 => ?_)
  subst h_3
  refine v_ifz_eq C 21 dX6_quote_14 (by decide) (fun _ => ?_) (fun h => nomatch h) 
  refine v_iload_n C dX6_quote_21 rfl 1 rfl ?_
  refine v_iload_n C dX6_quote_22 rfl 2 rfl ?_
  refine v_icmp_eq C 37 dX6_quote_23 (by decide) ⟨by omega, by omega⟩ ⟨by omega, by omega⟩ (fun c_5 => ?_) (fun c_5 => ?_)
  ·
    exfalso; omega
  ·
    refine v_iload_n C dX6_quote_26 rfl 3 rfl ?_
    refine v_bipush C (z := -99) dX6_quote_27 rfl ?_
    refine v_bipush C (z := 99) dX6_quote_29 rfl ?_
    refine v_invSI C (As := [.int (iI (z)), .int (iI (-99)), .int (iI (99))]) (kX6_in_t l g  (x := z) (y := -99) (z := 99) ⟨by omega, by omega⟩ (b31_lit _ rfl) (b31_lit _ rfl) (by omega) (by omega)) (cwS 3 C.2.2.2.2.1 gX6_quote_X6_in rfl rfl rfl (by decide +kernel) ⟨Nat.le_of_ble_eq_true rfl, Nat.le_of_ble_eq_true rfl⟩) [wMM g mm b1 b2 b3 b4 b5 b6 b7 b8 b9 b10 b11 b12 b13 b14 b15 b16 b17 kinds ni cm first second An An Tm Tm bc hds tgs qc qi qo qs cn vals Nw Nw Kw Kw cd] [] [0] [.ref (mm)] (fun _ => [wMM g mm b1 b2 b3 b4 b5 b6 b7 b8 b9 b10 b11 b12 b13 b14 b15 b16 b17 kinds ni cm first second An An Tm Tm bc hds tgs qc qi qo qs cn vals Nw Nw Kw Kw cd]) (fun _ => wMM g mm b1 b2 b3 b4 b5 b6 b7 b8 b9 b10 b11 b12 b13 b14 b15 b16 b17 kinds ni cm first second An An Tm Tm bc hds tgs qc qi qo qs cn vals Nw Nw Kw Kw cd ++ ([])) rfl rfl rfl (fun _ => rfl) (fun _ => rfl) (fun _ => rfl) (fun _ => rfl) rfl rfl (Nat.le_of_ble_eq_true rfl) dX6_quote_31 ⟨by decide, by decide⟩ (fun r_7 _ h_6 => ?_)
    subst h_6
    refine v_ifz_ne C 41 dX6_quote_34 (by decide) (fun _ => ?_) (fun h => nomatch h) 
    refine v_aload_n C dX6_quote_41 rfl 0 rfl ?_
    refine v_get C 0 (kf := 12) rfl rfl (by decide) inX6_quote_6 lkX6_quote_175 rfl rfl dX6_quote_42 ?_
    refine v_bipush C (z := 10) dX6_quote_45 rfl ?_
    refine v_icmp_ne C 54 dX6_quote_47 (by decide) ⟨by omega, by omega⟩ (b31_lit _ rfl) (fun c_8 => ?_) (fun c_8 => ?_)
    ·
      refine v_iconst C (z := 0) dX6_quote_54 ?_
      refine v_invVI C (As := [.int (iI (0))]) (q0 := 0) (ci := 6) (kX6_fails_z l g (mm := mm) (b1 := b1) (b2 := b2) (b3 := b3) (b4 := b4) (b5 := b5) (b6 := b6) (b7 := b7) (b8 := b8) (b9 := b9) (b10 := b10) (b11 := b11) (b12 := b12) (b13 := b13) (b14 := b14) (b15 := b15) (b16 := b16) (b17 := b17) (kinds := kinds) (tgs := tgs) (first := first) (second := second) (vals := vals) (qs := qs) (hds := hds) (An := An) (qi := qi) (qo := qo) (Tm := Tm) (Nw := Nw) (Kw := Kw) (ni := ni) (bc := bc) (cm := cm) (cn := cn) (qc := qc) (cd := cd) (ris := ris)  ) (cwV 1 C.2.2.2.2.1 gX6_quote_X6_fails rfl rfl rfl (by decide +kernel) ⟨Nat.le_of_ble_eq_true rfl, Nat.le_of_ble_eq_true rfl⟩) [wMM g mm b1 b2 b3 b4 b5 b6 b7 b8 b9 b10 b11 b12 b13 b14 b15 b16 b17 kinds ni cm first second An An Tm Tm bc hds tgs qc qi qo qs cn vals Nw Nw Kw Kw cd] [0] [] [] (fun _ => [wMM g mm b1 b2 b3 b4 b5 b6 b7 b8 b9 b10 b11 b12 b13 b14 b15 b16 b17 kinds ni cm first second An An Tm Tm bc hds tgs qc qi qo qs cn vals Nw Nw Kw Kw 0]) (fun _ => wMM g mm b1 b2 b3 b4 b5 b6 b7 b8 b9 b10 b11 b12 b13 b14 b15 b16 b17 kinds ni cm first second An An Tm Tm bc hds tgs qc qi qo qs cn vals Nw Nw Kw Kw 0 ++ ([])) rfl rfl rfl (fun _ => rfl) (fun _ => rfl) (fun _ => rfl) (fun _ => rfl) rfl rfl rfl rfl rfl (Nat.le_of_ble_eq_true rfl) dX6_quote_55 ⟨by decide, by decide⟩ (fun r_10 _ h_9 => ?_)
      subst h_9
      refine v_ifz_eq C 63 dX6_quote_58 (by decide) (fun _ => ?_) (fun h => nomatch h) 
      refine v_aload_n C dX6_quote_63 rfl 0 rfl ?_
      refine v_get C 0 (kf := 13) rfl rfl (by decide) inX6_quote_6 lkX6_quote_46 rfl rfl dX6_quote_64 ?_
      refine v_aload_n C dX6_quote_67 rfl 0 rfl ?_
      refine v_get C 0 (kf := 12) rfl rfl (by decide) inX6_quote_6 lkX6_quote_175 rfl rfl dX6_quote_68 ?_
      refine v_iload_n C dX6_quote_71 rfl 1 rfl ?_
      refine v_iastn C 10 (qc) (wMM g mm b1 b2 b3 b4 b5 b6 b7 b8 b9 b10 b11 b12 b13 b14 b15 b16 b17 kinds ni cm first second An An Tm Tm bc hds tgs qc (updN qi (qc) (x0)) qo qs cn vals Nw Nw Kw Kw 0 ++ ([])) rfl rfl (by omega) (by decide) dX6_quote_72 rfl ?_
      refine v_aload_n C dX6_quote_73 rfl 0 rfl ?_
      refine v_get C 0 (kf := 14) rfl rfl (by decide) inX6_quote_6 lkX6_quote_49 rfl rfl dX6_quote_74 ?_
      refine v_aload_n C dX6_quote_77 rfl 0 rfl ?_
      refine v_get C 0 (kf := 12) rfl rfl (by decide) inX6_quote_6 lkX6_quote_175 rfl rfl dX6_quote_78 ?_
      refine v_iload_n C dX6_quote_81 rfl 2 rfl ?_
      refine v_iastn C 11 (qc) (wMM g mm b1 b2 b3 b4 b5 b6 b7 b8 b9 b10 b11 b12 b13 b14 b15 b16 b17 kinds ni cm first second An An Tm Tm bc hds tgs qc (updN qi (qc) (x0)) (updN qo (qc) (y0)) qs cn vals Nw Nw Kw Kw 0 ++ ([])) rfl rfl (by omega) (by decide) dX6_quote_82 rfl ?_
      refine v_aload_n C dX6_quote_83 rfl 0 rfl ?_
      refine v_get C 0 (kf := 15) rfl rfl (by decide) inX6_quote_6 lkX6_quote_52 rfl rfl dX6_quote_84 ?_
      refine v_aload_n C dX6_quote_87 rfl 0 rfl ?_
      refine v_get C 0 (kf := 12) rfl rfl (by decide) inX6_quote_6 lkX6_quote_175 rfl rfl dX6_quote_88 ?_
      refine v_iload_n C dX6_quote_91 rfl 3 rfl ?_
      refine v_iast C 12 (qc) (wMM g mm b1 b2 b3 b4 b5 b6 b7 b8 b9 b10 b11 b12 b13 b14 b15 b16 b17 kinds ni cm first second An An Tm Tm bc hds tgs qc (updN qi (qc) (x0)) (updN qo (qc) (y0)) (updZ qs (qc) (z)) cn vals Nw Nw Kw Kw 0 ++ ([])) rfl rfl (by omega) (by decide) dX6_quote_92 rfl ?_
      refine v_aload_n C dX6_quote_93 rfl 0 rfl ?_
      refine v_dup C dX6_quote_94 rfl ?_
      refine v_get C 0 (kf := 12) rfl rfl (by decide) inX6_quote_6 lkX6_quote_175 rfl rfl dX6_quote_95 ?_
      refine v_iconst C (z := 1) dX6_quote_98 ?_
      refine v_iadd C dX6_quote_99 ?_
      rw [show (((qc : Nat) : Int)) + 1 = ((qc + 1 : Nat) : Int) from rfl]
      refine v_put C 0 (kf := 12) (wMM g mm b1 b2 b3 b4 b5 b6 b7 b8 b9 b10 b11 b12 b13 b14 b15 b16 b17 kinds ni cm first second An An Tm Tm bc hds tgs (qc + 1) (updN qi (qc) (x0)) (updN qo (qc) (y0)) (updZ qs (qc) (z)) cn vals Nw Nw Kw Kw 0 ++ ([])) rfl rfl (by decide) inX6_quote_6 lkX6_quote_175 rfl tyX6_ok nmX6 rfl rfl rfl (Nat.le_of_ble_eq_true rfl) dX6_quote_100 rfl ?_
      refine v_aload_n C dX6_quote_103 rfl 0 rfl ?_
      refine v_get C 0 (kf := 12) rfl rfl (by decide) inX6_quote_6 lkX6_quote_175 rfl rfl dX6_quote_104 ?_
      refine v_iconst C (z := 1) dX6_quote_107 ?_
      refine v_isub C dX6_quote_108 ?_
      exact (v_iret C hr hl () (by decide) (by decide) rfl (congrArg iI (by omega)) dX6_quote_109)
    ·
      exfalso; omega
set_option maxHeartbeats 4000000 in
set_option maxRecDepth 100000 in
theorem kX6_quote_a (l : Launch) (g : vG) {mm b1 b2 b3 b4 b5 b6 b7 b8 b9 b10 b11 b12 b13 b14 b15 b16 b17 : Nat} {kinds tgs first second vals qs : Nat → Int} {hds An qi qo Tm Nw Kw ris : Nat → Nat} {ni bc cm cn qc cd : Nat} {x : Int} {y : Int} {z : Int} (hI : MI vals ris cn kinds tgs first second qs hds An qi qo Tm ni bc cm qc) (hx : b31 x) (hqx : ¬ (0 ≤ x ∧ x < ((ni : Nat) : Int))) (hy : b31 y) (hz : b31 z)  : mI l g yX6_quote wsX6_quote ({ frames := 2, cells := 0, slots := 0, locals := 43 }) [.ref (mm), .int (iI (x)), .int (iI (y)), .int (iI (z))] (wMM g mm b1 b2 b3 b4 b5 b6 b7 b8 b9 b10 b11 b12 b13 b14 b15 b16 b17 kinds ni cm first second An An Tm Tm bc hds tgs qc qi qo qs cn vals Nw Nw Kw Kw cd ++ ([])) (fun _ : Unit => wMM g mm b1 b2 b3 b4 b5 b6 b7 b8 b9 b10 b11 b12 b13 b14 b15 b16 b17 kinds ni cm first second An An Tm Tm bc hds tgs qc qi qo qs cn vals Nw Nw Kw Kw 1 ++ ([])) (fun _ _ => True) 0 0 := by
  refine mI_of (cc := cX6_quote) (maxL := 4) (ret := (some .int)) (own := RX6) (by decide) rfl rfl (Nat.le_of_ble_eq_true rfl) ?_
  intro p e s m args below meth c A C hr hl hin
  obtain ⟨hni, hbc1, hbc, hcm1, hcm, hcn1, hnm, hqc, hhd, htg, hf, hs, hfc, hsc, hAn, hTm, hao, hpal, hqb, hqi, htk, hkd⟩ := id hI
  have hx1 := hx.1
  have hx2 := hx.2
  have hy1 := hy.1
  have hy2 := hy.2
  have hz1 := hz.1
  have hz2 := hz.2
  refine v_aload_n C dX6_quote_0 rfl 0 rfl ?_
  refine v_aload_n C dX6_quote_1 rfl 0 rfl ?_
  refine v_iload_n C dX6_quote_2 rfl 1 rfl ?_
  refine v_invVI C (As := [.int (iI (x))]) (q0 := 0) (ci := 6) (kX6_isNoItem_out l g (mm := mm) (b1 := b1) (b2 := b2) (b3 := b3) (b4 := b4) (b5 := b5) (b6 := b6) (b7 := b7) (b8 := b8) (b9 := b9) (b10 := b10) (b11 := b11) (b12 := b12) (b13 := b13) (b14 := b14) (b15 := b15) (b16 := b16) (b17 := b17) (kinds := kinds) (tgs := tgs) (first := first) (second := second) (vals := vals) (qs := qs) (hds := hds) (An := An) (qi := qi) (qo := qo) (Tm := Tm) (Nw := Nw) (Kw := Kw) (ni := ni) (bc := bc) (cm := cm) (cn := cn) (qc := qc) (cd := cd) (ris := ris) (x := x) ⟨by omega, by omega⟩ (by omega) (by omega)) (cwV 1 C.2.2.2.2.1 gX6_quote_X6_isNoItem rfl rfl rfl (by decide +kernel) ⟨Nat.le_of_ble_eq_true rfl, Nat.le_of_ble_eq_true rfl⟩) [wMM g mm b1 b2 b3 b4 b5 b6 b7 b8 b9 b10 b11 b12 b13 b14 b15 b16 b17 kinds ni cm first second An An Tm Tm bc hds tgs qc qi qo qs cn vals Nw Nw Kw Kw cd] [0] [] [.ref (mm)] (fun _ => [wMM g mm b1 b2 b3 b4 b5 b6 b7 b8 b9 b10 b11 b12 b13 b14 b15 b16 b17 kinds ni cm first second An An Tm Tm bc hds tgs qc qi qo qs cn vals Nw Nw Kw Kw cd]) (fun _ => wMM g mm b1 b2 b3 b4 b5 b6 b7 b8 b9 b10 b11 b12 b13 b14 b15 b16 b17 kinds ni cm first second An An Tm Tm bc hds tgs qc qi qo qs cn vals Nw Nw Kw Kw cd ++ ([])) rfl rfl rfl (fun _ => rfl) (fun _ => rfl) (fun _ => rfl) (fun _ => rfl) rfl rfl rfl rfl rfl (Nat.le_of_ble_eq_true rfl) dX6_quote_3 ⟨by decide, by decide⟩ (fun r_2 _ h_1 => ?_)
  subst h_1
  refine v_ifz_ne C 17 dX6_quote_6 (by decide) (fun _ => ?_) (fun h => nomatch h) 
  refine v_iconst C (z := 1) dX6_quote_17 ?_
  refine v_goto C 55 dX6_quote_18 (by decide) ?_
  refine v_invVI C (As := [.int (iI (1))]) (q0 := 0) (ci := 6) (kX6_fails_p l g (mm := mm) (b1 := b1) (b2 := b2) (b3 := b3) (b4 := b4) (b5 := b5) (b6 := b6) (b7 := b7) (b8 := b8) (b9 := b9) (b10 := b10) (b11 := b11) (b12 := b12) (b13 := b13) (b14 := b14) (b15 := b15) (b16 := b16) (b17 := b17) (kinds := kinds) (tgs := tgs) (first := first) (second := second) (vals := vals) (qs := qs) (hds := hds) (An := An) (qi := qi) (qo := qo) (Tm := Tm) (Nw := Nw) (Kw := Kw) (ni := ni) (bc := bc) (cm := cm) (cn := cn) (qc := qc) (cd := cd) (ris := ris) (q := 1) (by decide)) (cwV 1 C.2.2.2.2.1 gX6_quote_X6_fails rfl rfl rfl (by decide +kernel) ⟨Nat.le_of_ble_eq_true rfl, Nat.le_of_ble_eq_true rfl⟩) [wMM g mm b1 b2 b3 b4 b5 b6 b7 b8 b9 b10 b11 b12 b13 b14 b15 b16 b17 kinds ni cm first second An An Tm Tm bc hds tgs qc qi qo qs cn vals Nw Nw Kw Kw cd] [0] [] [] (fun _ => [wMM g mm b1 b2 b3 b4 b5 b6 b7 b8 b9 b10 b11 b12 b13 b14 b15 b16 b17 kinds ni cm first second An An Tm Tm bc hds tgs qc qi qo qs cn vals Nw Nw Kw Kw 1]) (fun _ => wMM g mm b1 b2 b3 b4 b5 b6 b7 b8 b9 b10 b11 b12 b13 b14 b15 b16 b17 kinds ni cm first second An An Tm Tm bc hds tgs qc qi qo qs cn vals Nw Nw Kw Kw 1 ++ ([])) rfl rfl rfl (fun _ => rfl) (fun _ => rfl) (fun _ => rfl) (fun _ => rfl) rfl rfl rfl rfl rfl (Nat.le_of_ble_eq_true rfl) dX6_quote_55 ⟨by decide, by decide⟩ (fun r_4 _ h_3 => ?_)
  subst h_3
  refine v_ifz_eq C 63 dX6_quote_58 (by decide) (fun h => nomatch h) (fun _ => ?_)
  refine v_iconst C (z := 0) dX6_quote_61 ?_
  exact (v_iret C hr hl () (by decide) (by decide) rfl trivial dX6_quote_62)
set_option maxHeartbeats 4000000 in
set_option maxRecDepth 100000 in
theorem kX6_quote_b (l : Launch) (g : vG) {mm b1 b2 b3 b4 b5 b6 b7 b8 b9 b10 b11 b12 b13 b14 b15 b16 b17 : Nat} {kinds tgs first second vals qs : Nat → Int} {hds An qi qo Tm Nw Kw ris : Nat → Nat} {ni bc cm cn qc cd : Nat} {x0 : Nat} {y : Int} {z : Int} (hI : MI vals ris cn kinds tgs first second qs hds An qi qo Tm ni bc cm qc) (hx0 : x0 < ni) (hy : b31 y) (hqy : ¬ (0 ≤ y ∧ y < ((ni : Nat) : Int))) (hz : b31 z)  : mI l g yX6_quote wsX6_quote ({ frames := 2, cells := 0, slots := 0, locals := 43 }) [.ref (mm), .int (iI ((x0 : Nat) : Int)), .int (iI (y)), .int (iI (z))] (wMM g mm b1 b2 b3 b4 b5 b6 b7 b8 b9 b10 b11 b12 b13 b14 b15 b16 b17 kinds ni cm first second An An Tm Tm bc hds tgs qc qi qo qs cn vals Nw Nw Kw Kw cd ++ ([])) (fun _ : Unit => wMM g mm b1 b2 b3 b4 b5 b6 b7 b8 b9 b10 b11 b12 b13 b14 b15 b16 b17 kinds ni cm first second An An Tm Tm bc hds tgs qc qi qo qs cn vals Nw Nw Kw Kw 1 ++ ([])) (fun _ _ => True) 0 0 := by
  refine mI_of (cc := cX6_quote) (maxL := 4) (ret := (some .int)) (own := RX6) (by decide) rfl rfl (Nat.le_of_ble_eq_true rfl) ?_
  intro p e s m args below meth c A C hr hl hin
  obtain ⟨hni, hbc1, hbc, hcm1, hcm, hcn1, hnm, hqc, hhd, htg, hf, hs, hfc, hsc, hAn, hTm, hao, hpal, hqb, hqi, htk, hkd⟩ := id hI
  have hy1 := hy.1
  have hy2 := hy.2
  have hz1 := hz.1
  have hz2 := hz.2
  refine v_aload_n C dX6_quote_0 rfl 0 rfl ?_
  refine v_aload_n C dX6_quote_1 rfl 0 rfl ?_
  refine v_iload_n C dX6_quote_2 rfl 1 rfl ?_
  refine v_invVI C (As := [.int (iI ((x0 : Nat) : Int))]) (q0 := 0) (ci := 6) (kX6_isNoItem_in l g (mm := mm) (b1 := b1) (b2 := b2) (b3 := b3) (b4 := b4) (b5 := b5) (b6 := b6) (b7 := b7) (b8 := b8) (b9 := b9) (b10 := b10) (b11 := b11) (b12 := b12) (b13 := b13) (b14 := b14) (b15 := b15) (b16 := b16) (b17 := b17) (kinds := kinds) (tgs := tgs) (first := first) (second := second) (vals := vals) (qs := qs) (hds := hds) (An := An) (qi := qi) (qo := qo) (Tm := Tm) (Nw := Nw) (Kw := Kw) (ni := ni) (bc := bc) (cm := cm) (cn := cn) (qc := qc) (cd := cd) (ris := ris) (i0 := x0) (by omega) (by omega)) (cwV 1 C.2.2.2.2.1 gX6_quote_X6_isNoItem rfl rfl rfl (by decide +kernel) ⟨Nat.le_of_ble_eq_true rfl, Nat.le_of_ble_eq_true rfl⟩) [wMM g mm b1 b2 b3 b4 b5 b6 b7 b8 b9 b10 b11 b12 b13 b14 b15 b16 b17 kinds ni cm first second An An Tm Tm bc hds tgs qc qi qo qs cn vals Nw Nw Kw Kw cd] [0] [] [.ref (mm)] (fun _ => [wMM g mm b1 b2 b3 b4 b5 b6 b7 b8 b9 b10 b11 b12 b13 b14 b15 b16 b17 kinds ni cm first second An An Tm Tm bc hds tgs qc qi qo qs cn vals Nw Nw Kw Kw cd]) (fun _ => wMM g mm b1 b2 b3 b4 b5 b6 b7 b8 b9 b10 b11 b12 b13 b14 b15 b16 b17 kinds ni cm first second An An Tm Tm bc hds tgs qc qi qo qs cn vals Nw Nw Kw Kw cd ++ ([])) rfl rfl rfl (fun _ => rfl) (fun _ => rfl) (fun _ => rfl) (fun _ => rfl) rfl rfl rfl rfl rfl (Nat.le_of_ble_eq_true rfl) dX6_quote_3 ⟨by decide, by decide⟩ (fun r_2 _ h_1 => ?_)
  subst h_1
  refine v_ifz_ne C 17 dX6_quote_6 (by decide) (fun h => nomatch h) (fun _ => ?_)
  refine v_aload_n C dX6_quote_9 rfl 0 rfl ?_
  refine v_iload_n C dX6_quote_10 rfl 2 rfl ?_
  refine v_invVI C (As := [.int (iI (y))]) (q0 := 0) (ci := 6) (kX6_isNoItem_out l g (mm := mm) (b1 := b1) (b2 := b2) (b3 := b3) (b4 := b4) (b5 := b5) (b6 := b6) (b7 := b7) (b8 := b8) (b9 := b9) (b10 := b10) (b11 := b11) (b12 := b12) (b13 := b13) (b14 := b14) (b15 := b15) (b16 := b16) (b17 := b17) (kinds := kinds) (tgs := tgs) (first := first) (second := second) (vals := vals) (qs := qs) (hds := hds) (An := An) (qi := qi) (qo := qo) (Tm := Tm) (Nw := Nw) (Kw := Kw) (ni := ni) (bc := bc) (cm := cm) (cn := cn) (qc := qc) (cd := cd) (ris := ris) (x := y) ⟨by omega, by omega⟩ (by omega) (by omega)) (cwV 1 C.2.2.2.2.1 gX6_quote_X6_isNoItem rfl rfl rfl (by decide +kernel) ⟨Nat.le_of_ble_eq_true rfl, Nat.le_of_ble_eq_true rfl⟩) [wMM g mm b1 b2 b3 b4 b5 b6 b7 b8 b9 b10 b11 b12 b13 b14 b15 b16 b17 kinds ni cm first second An An Tm Tm bc hds tgs qc qi qo qs cn vals Nw Nw Kw Kw cd] [0] [] [.ref (mm)] (fun _ => [wMM g mm b1 b2 b3 b4 b5 b6 b7 b8 b9 b10 b11 b12 b13 b14 b15 b16 b17 kinds ni cm first second An An Tm Tm bc hds tgs qc qi qo qs cn vals Nw Nw Kw Kw cd]) (fun _ => wMM g mm b1 b2 b3 b4 b5 b6 b7 b8 b9 b10 b11 b12 b13 b14 b15 b16 b17 kinds ni cm first second An An Tm Tm bc hds tgs qc qi qo qs cn vals Nw Nw Kw Kw cd ++ ([])) rfl rfl rfl (fun _ => rfl) (fun _ => rfl) (fun _ => rfl) (fun _ => rfl) rfl rfl rfl rfl rfl (Nat.le_of_ble_eq_true rfl) dX6_quote_11 ⟨by decide, by decide⟩ (fun r_4 _ h_3 => ?_)
  subst h_3
  refine v_ifz_eq C 21 dX6_quote_14 (by decide) (fun h => nomatch h) (fun _ => ?_)
  refine v_iconst C (z := 1) dX6_quote_17 ?_
  refine v_goto C 55 dX6_quote_18 (by decide) ?_
  refine v_invVI C (As := [.int (iI (1))]) (q0 := 0) (ci := 6) (kX6_fails_p l g (mm := mm) (b1 := b1) (b2 := b2) (b3 := b3) (b4 := b4) (b5 := b5) (b6 := b6) (b7 := b7) (b8 := b8) (b9 := b9) (b10 := b10) (b11 := b11) (b12 := b12) (b13 := b13) (b14 := b14) (b15 := b15) (b16 := b16) (b17 := b17) (kinds := kinds) (tgs := tgs) (first := first) (second := second) (vals := vals) (qs := qs) (hds := hds) (An := An) (qi := qi) (qo := qo) (Tm := Tm) (Nw := Nw) (Kw := Kw) (ni := ni) (bc := bc) (cm := cm) (cn := cn) (qc := qc) (cd := cd) (ris := ris) (q := 1) (by decide)) (cwV 1 C.2.2.2.2.1 gX6_quote_X6_fails rfl rfl rfl (by decide +kernel) ⟨Nat.le_of_ble_eq_true rfl, Nat.le_of_ble_eq_true rfl⟩) [wMM g mm b1 b2 b3 b4 b5 b6 b7 b8 b9 b10 b11 b12 b13 b14 b15 b16 b17 kinds ni cm first second An An Tm Tm bc hds tgs qc qi qo qs cn vals Nw Nw Kw Kw cd] [0] [] [] (fun _ => [wMM g mm b1 b2 b3 b4 b5 b6 b7 b8 b9 b10 b11 b12 b13 b14 b15 b16 b17 kinds ni cm first second An An Tm Tm bc hds tgs qc qi qo qs cn vals Nw Nw Kw Kw 1]) (fun _ => wMM g mm b1 b2 b3 b4 b5 b6 b7 b8 b9 b10 b11 b12 b13 b14 b15 b16 b17 kinds ni cm first second An An Tm Tm bc hds tgs qc qi qo qs cn vals Nw Nw Kw Kw 1 ++ ([])) rfl rfl rfl (fun _ => rfl) (fun _ => rfl) (fun _ => rfl) (fun _ => rfl) rfl rfl rfl rfl rfl (Nat.le_of_ble_eq_true rfl) dX6_quote_55 ⟨by decide, by decide⟩ (fun r_6 _ h_5 => ?_)
  subst h_5
  refine v_ifz_eq C 63 dX6_quote_58 (by decide) (fun h => nomatch h) (fun _ => ?_)
  refine v_iconst C (z := 0) dX6_quote_61 ?_
  exact (v_iret C hr hl () (by decide) (by decide) rfl trivial dX6_quote_62)
set_option maxHeartbeats 4000000 in
set_option maxRecDepth 100000 in
theorem kX6_quote_2 (l : Launch) (g : vG) {mm b1 b2 b3 b4 b5 b6 b7 b8 b9 b10 b11 b12 b13 b14 b15 b16 b17 : Nat} {kinds tgs first second vals qs : Nat → Int} {hds An qi qo Tm Nw Kw ris : Nat → Nat} {ni bc cm cn qc cd : Nat} {x0 : Nat} {y0 : Nat} {z : Int} (hI : MI vals ris cn kinds tgs first second qs hds An qi qo Tm ni bc cm qc) (hx0 : x0 < ni) (hy0 : y0 < ni) (hz : b31 z) (hq : x0 = y0 ∨ z < -99 ∨ 99 < z) : mI l g yX6_quote wsX6_quote ({ frames := 2, cells := 0, slots := 0, locals := 43 }) [.ref (mm), .int (iI ((x0 : Nat) : Int)), .int (iI ((y0 : Nat) : Int)), .int (iI (z))] (wMM g mm b1 b2 b3 b4 b5 b6 b7 b8 b9 b10 b11 b12 b13 b14 b15 b16 b17 kinds ni cm first second An An Tm Tm bc hds tgs qc qi qo qs cn vals Nw Nw Kw Kw cd ++ ([])) (fun _ : Unit => wMM g mm b1 b2 b3 b4 b5 b6 b7 b8 b9 b10 b11 b12 b13 b14 b15 b16 b17 kinds ni cm first second An An Tm Tm bc hds tgs qc qi qo qs cn vals Nw Nw Kw Kw 2 ++ ([])) (fun _ _ => True) 0 0 := by
  refine mI_of (cc := cX6_quote) (maxL := 4) (ret := (some .int)) (own := RX6) (by decide) rfl rfl (Nat.le_of_ble_eq_true rfl) ?_
  intro p e s m args below meth c A C hr hl hin
  obtain ⟨hni, hbc1, hbc, hcm1, hcm, hcn1, hnm, hqc, hhd, htg, hf, hs, hfc, hsc, hAn, hTm, hao, hpal, hqb, hqi, htk, hkd⟩ := id hI
  have hz1 := hz.1
  have hz2 := hz.2
  refine v_aload_n C dX6_quote_0 rfl 0 rfl ?_
  refine v_aload_n C dX6_quote_1 rfl 0 rfl ?_
  refine v_iload_n C dX6_quote_2 rfl 1 rfl ?_
  refine v_invVI C (As := [.int (iI ((x0 : Nat) : Int))]) (q0 := 0) (ci := 6) (kX6_isNoItem_in l g (mm := mm) (b1 := b1) (b2 := b2) (b3 := b3) (b4 := b4) (b5 := b5) (b6 := b6) (b7 := b7) (b8 := b8) (b9 := b9) (b10 := b10) (b11 := b11) (b12 := b12) (b13 := b13) (b14 := b14) (b15 := b15) (b16 := b16) (b17 := b17) (kinds := kinds) (tgs := tgs) (first := first) (second := second) (vals := vals) (qs := qs) (hds := hds) (An := An) (qi := qi) (qo := qo) (Tm := Tm) (Nw := Nw) (Kw := Kw) (ni := ni) (bc := bc) (cm := cm) (cn := cn) (qc := qc) (cd := cd) (ris := ris) (i0 := x0) (by omega) (by omega)) (cwV 1 C.2.2.2.2.1 gX6_quote_X6_isNoItem rfl rfl rfl (by decide +kernel) ⟨Nat.le_of_ble_eq_true rfl, Nat.le_of_ble_eq_true rfl⟩) [wMM g mm b1 b2 b3 b4 b5 b6 b7 b8 b9 b10 b11 b12 b13 b14 b15 b16 b17 kinds ni cm first second An An Tm Tm bc hds tgs qc qi qo qs cn vals Nw Nw Kw Kw cd] [0] [] [.ref (mm)] (fun _ => [wMM g mm b1 b2 b3 b4 b5 b6 b7 b8 b9 b10 b11 b12 b13 b14 b15 b16 b17 kinds ni cm first second An An Tm Tm bc hds tgs qc qi qo qs cn vals Nw Nw Kw Kw cd]) (fun _ => wMM g mm b1 b2 b3 b4 b5 b6 b7 b8 b9 b10 b11 b12 b13 b14 b15 b16 b17 kinds ni cm first second An An Tm Tm bc hds tgs qc qi qo qs cn vals Nw Nw Kw Kw cd ++ ([])) rfl rfl rfl (fun _ => rfl) (fun _ => rfl) (fun _ => rfl) (fun _ => rfl) rfl rfl rfl rfl rfl (Nat.le_of_ble_eq_true rfl) dX6_quote_3 ⟨by decide, by decide⟩ (fun r_2 _ h_1 => ?_)
  subst h_1
  refine v_ifz_ne C 17 dX6_quote_6 (by decide) (fun h => nomatch h) (fun _ => ?_)
  refine v_aload_n C dX6_quote_9 rfl 0 rfl ?_
  refine v_iload_n C dX6_quote_10 rfl 2 rfl ?_
  refine v_invVI C (As := [.int (iI ((y0 : Nat) : Int))]) (q0 := 0) (ci := 6) (kX6_isNoItem_in l g (mm := mm) (b1 := b1) (b2 := b2) (b3 := b3) (b4 := b4) (b5 := b5) (b6 := b6) (b7 := b7) (b8 := b8) (b9 := b9) (b10 := b10) (b11 := b11) (b12 := b12) (b13 := b13) (b14 := b14) (b15 := b15) (b16 := b16) (b17 := b17) (kinds := kinds) (tgs := tgs) (first := first) (second := second) (vals := vals) (qs := qs) (hds := hds) (An := An) (qi := qi) (qo := qo) (Tm := Tm) (Nw := Nw) (Kw := Kw) (ni := ni) (bc := bc) (cm := cm) (cn := cn) (qc := qc) (cd := cd) (ris := ris) (i0 := y0) (by omega) (by omega)) (cwV 1 C.2.2.2.2.1 gX6_quote_X6_isNoItem rfl rfl rfl (by decide +kernel) ⟨Nat.le_of_ble_eq_true rfl, Nat.le_of_ble_eq_true rfl⟩) [wMM g mm b1 b2 b3 b4 b5 b6 b7 b8 b9 b10 b11 b12 b13 b14 b15 b16 b17 kinds ni cm first second An An Tm Tm bc hds tgs qc qi qo qs cn vals Nw Nw Kw Kw cd] [0] [] [.ref (mm)] (fun _ => [wMM g mm b1 b2 b3 b4 b5 b6 b7 b8 b9 b10 b11 b12 b13 b14 b15 b16 b17 kinds ni cm first second An An Tm Tm bc hds tgs qc qi qo qs cn vals Nw Nw Kw Kw cd]) (fun _ => wMM g mm b1 b2 b3 b4 b5 b6 b7 b8 b9 b10 b11 b12 b13 b14 b15 b16 b17 kinds ni cm first second An An Tm Tm bc hds tgs qc qi qo qs cn vals Nw Nw Kw Kw cd ++ ([])) rfl rfl rfl (fun _ => rfl) (fun _ => rfl) (fun _ => rfl) (fun _ => rfl) rfl rfl rfl rfl rfl (Nat.le_of_ble_eq_true rfl) dX6_quote_11 ⟨by decide, by decide⟩ (fun r_4 _ h_3 => ?_)
  subst h_3
  refine v_ifz_eq C 21 dX6_quote_14 (by decide) (fun _ => ?_) (fun h => nomatch h) 
  refine v_iload_n C dX6_quote_21 rfl 1 rfl ?_
  refine v_iload_n C dX6_quote_22 rfl 2 rfl ?_
  refine v_icmp_eq C 37 dX6_quote_23 (by decide) ⟨by omega, by omega⟩ ⟨by omega, by omega⟩ (fun c_5 => ?_) (fun c_5 => ?_)
  ·
    refine v_iconst C (z := 2) dX6_quote_37 ?_
    refine v_goto C 55 dX6_quote_38 (by decide) ?_
    refine v_invVI C (As := [.int (iI (2))]) (q0 := 0) (ci := 6) (kX6_fails_p l g (mm := mm) (b1 := b1) (b2 := b2) (b3 := b3) (b4 := b4) (b5 := b5) (b6 := b6) (b7 := b7) (b8 := b8) (b9 := b9) (b10 := b10) (b11 := b11) (b12 := b12) (b13 := b13) (b14 := b14) (b15 := b15) (b16 := b16) (b17 := b17) (kinds := kinds) (tgs := tgs) (first := first) (second := second) (vals := vals) (qs := qs) (hds := hds) (An := An) (qi := qi) (qo := qo) (Tm := Tm) (Nw := Nw) (Kw := Kw) (ni := ni) (bc := bc) (cm := cm) (cn := cn) (qc := qc) (cd := cd) (ris := ris) (q := 2) (by decide)) (cwV 1 C.2.2.2.2.1 gX6_quote_X6_fails rfl rfl rfl (by decide +kernel) ⟨Nat.le_of_ble_eq_true rfl, Nat.le_of_ble_eq_true rfl⟩) [wMM g mm b1 b2 b3 b4 b5 b6 b7 b8 b9 b10 b11 b12 b13 b14 b15 b16 b17 kinds ni cm first second An An Tm Tm bc hds tgs qc qi qo qs cn vals Nw Nw Kw Kw cd] [0] [] [] (fun _ => [wMM g mm b1 b2 b3 b4 b5 b6 b7 b8 b9 b10 b11 b12 b13 b14 b15 b16 b17 kinds ni cm first second An An Tm Tm bc hds tgs qc qi qo qs cn vals Nw Nw Kw Kw 2]) (fun _ => wMM g mm b1 b2 b3 b4 b5 b6 b7 b8 b9 b10 b11 b12 b13 b14 b15 b16 b17 kinds ni cm first second An An Tm Tm bc hds tgs qc qi qo qs cn vals Nw Nw Kw Kw 2 ++ ([])) rfl rfl rfl (fun _ => rfl) (fun _ => rfl) (fun _ => rfl) (fun _ => rfl) rfl rfl rfl rfl rfl (Nat.le_of_ble_eq_true rfl) dX6_quote_55 ⟨by decide, by decide⟩ (fun r_7 _ h_6 => ?_)
    subst h_6
    refine v_ifz_eq C 63 dX6_quote_58 (by decide) (fun h => nomatch h) (fun _ => ?_)
    refine v_iconst C (z := 0) dX6_quote_61 ?_
    exact (v_iret C hr hl () (by decide) (by decide) rfl trivial dX6_quote_62)
  ·
    refine v_iload_n C dX6_quote_26 rfl 3 rfl ?_
    refine v_bipush C (z := -99) dX6_quote_27 rfl ?_
    refine v_bipush C (z := 99) dX6_quote_29 rfl ?_
    refine v_invSI C (As := [.int (iI (z)), .int (iI (-99)), .int (iI (99))]) (kX6_in_f l g  (x := z) (y := -99) (z := 99) ⟨by omega, by omega⟩ (b31_lit _ rfl) (b31_lit _ rfl) (by omega)) (cwS 3 C.2.2.2.2.1 gX6_quote_X6_in rfl rfl rfl (by decide +kernel) ⟨Nat.le_of_ble_eq_true rfl, Nat.le_of_ble_eq_true rfl⟩) [wMM g mm b1 b2 b3 b4 b5 b6 b7 b8 b9 b10 b11 b12 b13 b14 b15 b16 b17 kinds ni cm first second An An Tm Tm bc hds tgs qc qi qo qs cn vals Nw Nw Kw Kw cd] [] [0] [.ref (mm)] (fun _ => [wMM g mm b1 b2 b3 b4 b5 b6 b7 b8 b9 b10 b11 b12 b13 b14 b15 b16 b17 kinds ni cm first second An An Tm Tm bc hds tgs qc qi qo qs cn vals Nw Nw Kw Kw cd]) (fun _ => wMM g mm b1 b2 b3 b4 b5 b6 b7 b8 b9 b10 b11 b12 b13 b14 b15 b16 b17 kinds ni cm first second An An Tm Tm bc hds tgs qc qi qo qs cn vals Nw Nw Kw Kw cd ++ ([])) rfl rfl rfl (fun _ => rfl) (fun _ => rfl) (fun _ => rfl) (fun _ => rfl) rfl rfl (Nat.le_of_ble_eq_true rfl) dX6_quote_31 ⟨by decide, by decide⟩ (fun r_9 _ h_8 => ?_)
    subst h_8
    refine v_ifz_ne C 41 dX6_quote_34 (by decide) (fun h => nomatch h) (fun _ => ?_)
    refine v_iconst C (z := 2) dX6_quote_37 ?_
    refine v_goto C 55 dX6_quote_38 (by decide) ?_
    refine v_invVI C (As := [.int (iI (2))]) (q0 := 0) (ci := 6) (kX6_fails_p l g (mm := mm) (b1 := b1) (b2 := b2) (b3 := b3) (b4 := b4) (b5 := b5) (b6 := b6) (b7 := b7) (b8 := b8) (b9 := b9) (b10 := b10) (b11 := b11) (b12 := b12) (b13 := b13) (b14 := b14) (b15 := b15) (b16 := b16) (b17 := b17) (kinds := kinds) (tgs := tgs) (first := first) (second := second) (vals := vals) (qs := qs) (hds := hds) (An := An) (qi := qi) (qo := qo) (Tm := Tm) (Nw := Nw) (Kw := Kw) (ni := ni) (bc := bc) (cm := cm) (cn := cn) (qc := qc) (cd := cd) (ris := ris) (q := 2) (by decide)) (cwV 1 C.2.2.2.2.1 gX6_quote_X6_fails rfl rfl rfl (by decide +kernel) ⟨Nat.le_of_ble_eq_true rfl, Nat.le_of_ble_eq_true rfl⟩) [wMM g mm b1 b2 b3 b4 b5 b6 b7 b8 b9 b10 b11 b12 b13 b14 b15 b16 b17 kinds ni cm first second An An Tm Tm bc hds tgs qc qi qo qs cn vals Nw Nw Kw Kw cd] [0] [] [] (fun _ => [wMM g mm b1 b2 b3 b4 b5 b6 b7 b8 b9 b10 b11 b12 b13 b14 b15 b16 b17 kinds ni cm first second An An Tm Tm bc hds tgs qc qi qo qs cn vals Nw Nw Kw Kw 2]) (fun _ => wMM g mm b1 b2 b3 b4 b5 b6 b7 b8 b9 b10 b11 b12 b13 b14 b15 b16 b17 kinds ni cm first second An An Tm Tm bc hds tgs qc qi qo qs cn vals Nw Nw Kw Kw 2 ++ ([])) rfl rfl rfl (fun _ => rfl) (fun _ => rfl) (fun _ => rfl) (fun _ => rfl) rfl rfl rfl rfl rfl (Nat.le_of_ble_eq_true rfl) dX6_quote_55 ⟨by decide, by decide⟩ (fun r_11 _ h_10 => ?_)
    subst h_10
    refine v_ifz_eq C 63 dX6_quote_58 (by decide) (fun h => nomatch h) (fun _ => ?_)
    refine v_iconst C (z := 0) dX6_quote_61 ?_
    exact (v_iret C hr hl () (by decide) (by decide) rfl trivial dX6_quote_62)
set_option maxHeartbeats 4000000 in
set_option maxRecDepth 100000 in
theorem kX6_quote_3 (l : Launch) (g : vG) {mm b1 b2 b3 b4 b5 b6 b7 b8 b9 b10 b11 b12 b13 b14 b15 b16 b17 : Nat} {kinds tgs first second vals qs : Nat → Int} {hds An qi qo Tm Nw Kw ris : Nat → Nat} {ni bc cm cn qc cd : Nat} {x0 : Nat} {y0 : Nat} {z : Int} (hI : MI vals ris cn kinds tgs first second qs hds An qi qo Tm ni bc cm qc) (hx0 : x0 < ni) (hy0 : y0 < ni) (hz : b31 z) (hne : ¬ x0 = y0) (hz3 : -99 ≤ z) (hz4 : z ≤ 99) (hqn : qc = 10) : mI l g yX6_quote wsX6_quote ({ frames := 2, cells := 0, slots := 0, locals := 43 }) [.ref (mm), .int (iI ((x0 : Nat) : Int)), .int (iI ((y0 : Nat) : Int)), .int (iI (z))] (wMM g mm b1 b2 b3 b4 b5 b6 b7 b8 b9 b10 b11 b12 b13 b14 b15 b16 b17 kinds ni cm first second An An Tm Tm bc hds tgs qc qi qo qs cn vals Nw Nw Kw Kw cd ++ ([])) (fun _ : Unit => wMM g mm b1 b2 b3 b4 b5 b6 b7 b8 b9 b10 b11 b12 b13 b14 b15 b16 b17 kinds ni cm first second An An Tm Tm bc hds tgs qc qi qo qs cn vals Nw Nw Kw Kw 3 ++ ([])) (fun _ _ => True) 0 0 := by
  refine mI_of (cc := cX6_quote) (maxL := 4) (ret := (some .int)) (own := RX6) (by decide) rfl rfl (Nat.le_of_ble_eq_true rfl) ?_
  intro p e s m args below meth c A C hr hl hin
  obtain ⟨hni, hbc1, hbc, hcm1, hcm, hcn1, hnm, hqc, hhd, htg, hf, hs, hfc, hsc, hAn, hTm, hao, hpal, hqb, hqi, htk, hkd⟩ := id hI
  have hz1 := hz.1
  have hz2 := hz.2
  refine v_aload_n C dX6_quote_0 rfl 0 rfl ?_
  refine v_aload_n C dX6_quote_1 rfl 0 rfl ?_
  refine v_iload_n C dX6_quote_2 rfl 1 rfl ?_
  refine v_invVI C (As := [.int (iI ((x0 : Nat) : Int))]) (q0 := 0) (ci := 6) (kX6_isNoItem_in l g (mm := mm) (b1 := b1) (b2 := b2) (b3 := b3) (b4 := b4) (b5 := b5) (b6 := b6) (b7 := b7) (b8 := b8) (b9 := b9) (b10 := b10) (b11 := b11) (b12 := b12) (b13 := b13) (b14 := b14) (b15 := b15) (b16 := b16) (b17 := b17) (kinds := kinds) (tgs := tgs) (first := first) (second := second) (vals := vals) (qs := qs) (hds := hds) (An := An) (qi := qi) (qo := qo) (Tm := Tm) (Nw := Nw) (Kw := Kw) (ni := ni) (bc := bc) (cm := cm) (cn := cn) (qc := qc) (cd := cd) (ris := ris) (i0 := x0) (by omega) (by omega)) (cwV 1 C.2.2.2.2.1 gX6_quote_X6_isNoItem rfl rfl rfl (by decide +kernel) ⟨Nat.le_of_ble_eq_true rfl, Nat.le_of_ble_eq_true rfl⟩) [wMM g mm b1 b2 b3 b4 b5 b6 b7 b8 b9 b10 b11 b12 b13 b14 b15 b16 b17 kinds ni cm first second An An Tm Tm bc hds tgs qc qi qo qs cn vals Nw Nw Kw Kw cd] [0] [] [.ref (mm)] (fun _ => [wMM g mm b1 b2 b3 b4 b5 b6 b7 b8 b9 b10 b11 b12 b13 b14 b15 b16 b17 kinds ni cm first second An An Tm Tm bc hds tgs qc qi qo qs cn vals Nw Nw Kw Kw cd]) (fun _ => wMM g mm b1 b2 b3 b4 b5 b6 b7 b8 b9 b10 b11 b12 b13 b14 b15 b16 b17 kinds ni cm first second An An Tm Tm bc hds tgs qc qi qo qs cn vals Nw Nw Kw Kw cd ++ ([])) rfl rfl rfl (fun _ => rfl) (fun _ => rfl) (fun _ => rfl) (fun _ => rfl) rfl rfl rfl rfl rfl (Nat.le_of_ble_eq_true rfl) dX6_quote_3 ⟨by decide, by decide⟩ (fun r_2 _ h_1 => ?_)
  subst h_1
  refine v_ifz_ne C 17 dX6_quote_6 (by decide) (fun h => nomatch h) (fun _ => ?_)
  refine v_aload_n C dX6_quote_9 rfl 0 rfl ?_
  refine v_iload_n C dX6_quote_10 rfl 2 rfl ?_
  refine v_invVI C (As := [.int (iI ((y0 : Nat) : Int))]) (q0 := 0) (ci := 6) (kX6_isNoItem_in l g (mm := mm) (b1 := b1) (b2 := b2) (b3 := b3) (b4 := b4) (b5 := b5) (b6 := b6) (b7 := b7) (b8 := b8) (b9 := b9) (b10 := b10) (b11 := b11) (b12 := b12) (b13 := b13) (b14 := b14) (b15 := b15) (b16 := b16) (b17 := b17) (kinds := kinds) (tgs := tgs) (first := first) (second := second) (vals := vals) (qs := qs) (hds := hds) (An := An) (qi := qi) (qo := qo) (Tm := Tm) (Nw := Nw) (Kw := Kw) (ni := ni) (bc := bc) (cm := cm) (cn := cn) (qc := qc) (cd := cd) (ris := ris) (i0 := y0) (by omega) (by omega)) (cwV 1 C.2.2.2.2.1 gX6_quote_X6_isNoItem rfl rfl rfl (by decide +kernel) ⟨Nat.le_of_ble_eq_true rfl, Nat.le_of_ble_eq_true rfl⟩) [wMM g mm b1 b2 b3 b4 b5 b6 b7 b8 b9 b10 b11 b12 b13 b14 b15 b16 b17 kinds ni cm first second An An Tm Tm bc hds tgs qc qi qo qs cn vals Nw Nw Kw Kw cd] [0] [] [.ref (mm)] (fun _ => [wMM g mm b1 b2 b3 b4 b5 b6 b7 b8 b9 b10 b11 b12 b13 b14 b15 b16 b17 kinds ni cm first second An An Tm Tm bc hds tgs qc qi qo qs cn vals Nw Nw Kw Kw cd]) (fun _ => wMM g mm b1 b2 b3 b4 b5 b6 b7 b8 b9 b10 b11 b12 b13 b14 b15 b16 b17 kinds ni cm first second An An Tm Tm bc hds tgs qc qi qo qs cn vals Nw Nw Kw Kw cd ++ ([])) rfl rfl rfl (fun _ => rfl) (fun _ => rfl) (fun _ => rfl) (fun _ => rfl) rfl rfl rfl rfl rfl (Nat.le_of_ble_eq_true rfl) dX6_quote_11 ⟨by decide, by decide⟩ (fun r_4 _ h_3 => ?_)
  subst h_3
  refine v_ifz_eq C 21 dX6_quote_14 (by decide) (fun _ => ?_) (fun h => nomatch h) 
  refine v_iload_n C dX6_quote_21 rfl 1 rfl ?_
  refine v_iload_n C dX6_quote_22 rfl 2 rfl ?_
  refine v_icmp_eq C 37 dX6_quote_23 (by decide) ⟨by omega, by omega⟩ ⟨by omega, by omega⟩ (fun c_5 => ?_) (fun c_5 => ?_)
  ·
    exfalso; omega
  ·
    refine v_iload_n C dX6_quote_26 rfl 3 rfl ?_
    refine v_bipush C (z := -99) dX6_quote_27 rfl ?_
    refine v_bipush C (z := 99) dX6_quote_29 rfl ?_
    refine v_invSI C (As := [.int (iI (z)), .int (iI (-99)), .int (iI (99))]) (kX6_in_t l g  (x := z) (y := -99) (z := 99) ⟨by omega, by omega⟩ (b31_lit _ rfl) (b31_lit _ rfl) (by omega) (by omega)) (cwS 3 C.2.2.2.2.1 gX6_quote_X6_in rfl rfl rfl (by decide +kernel) ⟨Nat.le_of_ble_eq_true rfl, Nat.le_of_ble_eq_true rfl⟩) [wMM g mm b1 b2 b3 b4 b5 b6 b7 b8 b9 b10 b11 b12 b13 b14 b15 b16 b17 kinds ni cm first second An An Tm Tm bc hds tgs qc qi qo qs cn vals Nw Nw Kw Kw cd] [] [0] [.ref (mm)] (fun _ => [wMM g mm b1 b2 b3 b4 b5 b6 b7 b8 b9 b10 b11 b12 b13 b14 b15 b16 b17 kinds ni cm first second An An Tm Tm bc hds tgs qc qi qo qs cn vals Nw Nw Kw Kw cd]) (fun _ => wMM g mm b1 b2 b3 b4 b5 b6 b7 b8 b9 b10 b11 b12 b13 b14 b15 b16 b17 kinds ni cm first second An An Tm Tm bc hds tgs qc qi qo qs cn vals Nw Nw Kw Kw cd ++ ([])) rfl rfl rfl (fun _ => rfl) (fun _ => rfl) (fun _ => rfl) (fun _ => rfl) rfl rfl (Nat.le_of_ble_eq_true rfl) dX6_quote_31 ⟨by decide, by decide⟩ (fun r_7 _ h_6 => ?_)
    subst h_6
    refine v_ifz_ne C 41 dX6_quote_34 (by decide) (fun _ => ?_) (fun h => nomatch h) 
    refine v_aload_n C dX6_quote_41 rfl 0 rfl ?_
    refine v_get C 0 (kf := 12) rfl rfl (by decide) inX6_quote_6 lkX6_quote_175 rfl rfl dX6_quote_42 ?_
    refine v_bipush C (z := 10) dX6_quote_45 rfl ?_
    refine v_icmp_ne C 54 dX6_quote_47 (by decide) ⟨by omega, by omega⟩ (b31_lit _ rfl) (fun c_8 => ?_) (fun c_8 => ?_)
    ·
      exfalso; omega
    ·
      refine v_iconst C (z := 3) dX6_quote_50 ?_
      refine v_goto C 55 dX6_quote_51 (by decide) ?_
      refine v_invVI C (As := [.int (iI (3))]) (q0 := 0) (ci := 6) (kX6_fails_p l g (mm := mm) (b1 := b1) (b2 := b2) (b3 := b3) (b4 := b4) (b5 := b5) (b6 := b6) (b7 := b7) (b8 := b8) (b9 := b9) (b10 := b10) (b11 := b11) (b12 := b12) (b13 := b13) (b14 := b14) (b15 := b15) (b16 := b16) (b17 := b17) (kinds := kinds) (tgs := tgs) (first := first) (second := second) (vals := vals) (qs := qs) (hds := hds) (An := An) (qi := qi) (qo := qo) (Tm := Tm) (Nw := Nw) (Kw := Kw) (ni := ni) (bc := bc) (cm := cm) (cn := cn) (qc := qc) (cd := cd) (ris := ris) (q := 3) (by decide)) (cwV 1 C.2.2.2.2.1 gX6_quote_X6_fails rfl rfl rfl (by decide +kernel) ⟨Nat.le_of_ble_eq_true rfl, Nat.le_of_ble_eq_true rfl⟩) [wMM g mm b1 b2 b3 b4 b5 b6 b7 b8 b9 b10 b11 b12 b13 b14 b15 b16 b17 kinds ni cm first second An An Tm Tm bc hds tgs qc qi qo qs cn vals Nw Nw Kw Kw cd] [0] [] [] (fun _ => [wMM g mm b1 b2 b3 b4 b5 b6 b7 b8 b9 b10 b11 b12 b13 b14 b15 b16 b17 kinds ni cm first second An An Tm Tm bc hds tgs qc qi qo qs cn vals Nw Nw Kw Kw 3]) (fun _ => wMM g mm b1 b2 b3 b4 b5 b6 b7 b8 b9 b10 b11 b12 b13 b14 b15 b16 b17 kinds ni cm first second An An Tm Tm bc hds tgs qc qi qo qs cn vals Nw Nw Kw Kw 3 ++ ([])) rfl rfl rfl (fun _ => rfl) (fun _ => rfl) (fun _ => rfl) (fun _ => rfl) rfl rfl rfl rfl rfl (Nat.le_of_ble_eq_true rfl) dX6_quote_55 ⟨by decide, by decide⟩ (fun r_10 _ h_9 => ?_)
      subst h_9
      refine v_ifz_eq C 63 dX6_quote_58 (by decide) (fun h => nomatch h) (fun _ => ?_)
      refine v_iconst C (z := 0) dX6_quote_61 ?_
      exact (v_iret C hr hl () (by decide) (by decide) rfl trivial dX6_quote_62)
theorem inX6_isBroken_6 : ∀ w ∈ u_ws RX6 TX6 23, w ∈ wsX6_isBroken := by decide +kernel
theorem lkX6_isBroken_175 : Cond.fieldLink RX6 175 "MergeAtelierModel" "quotes" "I" ∈ wsX6_isBroken := by decide +kernel
set_option maxHeartbeats 4000000 in
set_option maxRecDepth 100000 in
theorem kX6_isBroken_ok (l : Launch) (g : vG) {mm b1 b2 b3 b4 b5 b6 b7 b8 b9 b10 b11 b12 b13 b14 b15 b16 b17 : Nat} {kinds tgs first second vals qs : Nat → Int} {hds An qi qo Tm Nw Kw ris : Nat → Nat} {ni bc cm cn qc cd : Nat} {x0 : Nat} {y0 : Nat} (hI : MI vals ris cn kinds tgs first second qs hds An qi qo Tm ni bc cm qc) (hx0 : x0 < qc) (hy0 : y0 < cm)  : mI l g yX6_isBroken wsX6_isBroken ({ frames := 4, cells := 0, slots := 0, locals := 107 }) [.ref (mm), .int (iI ((x0 : Nat) : Int)), .int (iI ((y0 : Nat) : Int))] (wMM g mm b1 b2 b3 b4 b5 b6 b7 b8 b9 b10 b11 b12 b13 b14 b15 b16 b17 kinds ni cm first second An An Tm Tm bc hds tgs qc qi qo qs cn vals Nw Nw Kw Kw cd ++ ([])) (fun _ : Unit => wMM g mm b1 b2 b3 b4 b5 b6 b7 b8 b9 b10 b11 b12 b13 b14 b15 b16 b17 kinds ni cm first second An An Tm Tm bc hds tgs qc qi qo qs cn vals Nw Nw Kw Kw 0 ++ ([])) (fun v _ => v = iI (bZ (decide (qst vals cn (qs x0) (Tm (12 * y0 + qi x0)) (Tm (12 * y0 + qo x0)) = 1)))) 0 0 := by
  refine mI_of (cc := cX6_isBroken) (maxL := 3) (ret := (some .boolean)) (own := RX6) (by decide) rfl rfl (Nat.le_of_ble_eq_true rfl) ?_
  intro p e s m args below meth c A C hr hl hin
  obtain ⟨hni, hbc1, hbc, hcm1, hcm, hcn1, hnm, hqc, hhd, htg, hf, hs, hfc, hsc, hAn, hTm, hao, hpal, hqb, hqi, htk, hkd⟩ := id hI
  refine v_aload_n C dX6_isBroken_0 rfl 0 rfl ?_
  refine v_iload_n C dX6_isBroken_1 rfl 1 rfl ?_
  refine v_iconst C (z := 0) dX6_isBroken_2 ?_
  refine v_aload_n C dX6_isBroken_3 rfl 0 rfl ?_
  refine v_get C 0 (kf := 12) rfl rfl (by decide) inX6_isBroken_6 lkX6_isBroken_175 rfl rfl dX6_isBroken_4 ?_
  refine v_iconst C (z := 1) dX6_isBroken_7 ?_
  refine v_isub C dX6_isBroken_8 ?_
  refine v_invSI C (As := [.int (iI ((x0 : Nat) : Int)), .int (iI (0)), .int (iI ((((qc : Nat) : Int)) - 1))]) (kX6_in_t l g  (x := ((x0 : Nat) : Int)) (y := 0) (z := (((qc : Nat) : Int)) - 1) ⟨by omega, by omega⟩ (b31_lit _ rfl) ⟨by omega, by omega⟩ (by omega) (by omega)) (cwS 3 C.2.2.2.2.1 gX6_isBroken_X6_in rfl rfl rfl (by decide +kernel) ⟨Nat.le_of_ble_eq_true rfl, Nat.le_of_ble_eq_true rfl⟩) [wMM g mm b1 b2 b3 b4 b5 b6 b7 b8 b9 b10 b11 b12 b13 b14 b15 b16 b17 kinds ni cm first second An An Tm Tm bc hds tgs qc qi qo qs cn vals Nw Nw Kw Kw cd] [] [0] [.ref (mm)] (fun _ => [wMM g mm b1 b2 b3 b4 b5 b6 b7 b8 b9 b10 b11 b12 b13 b14 b15 b16 b17 kinds ni cm first second An An Tm Tm bc hds tgs qc qi qo qs cn vals Nw Nw Kw Kw cd]) (fun _ => wMM g mm b1 b2 b3 b4 b5 b6 b7 b8 b9 b10 b11 b12 b13 b14 b15 b16 b17 kinds ni cm first second An An Tm Tm bc hds tgs qc qi qo qs cn vals Nw Nw Kw Kw cd ++ ([])) rfl rfl rfl (fun _ => rfl) (fun _ => rfl) (fun _ => rfl) (fun _ => rfl) rfl rfl (Nat.le_of_ble_eq_true rfl) dX6_isBroken_9 ⟨by decide, by decide⟩ (fun r_2 _ h_1 => ?_)
  subst h_1
  refine v_ifz_eq C 23 dX6_isBroken_12 (by decide) (fun h => nomatch h) (fun _ => ?_)
  refine v_aload_n C dX6_isBroken_15 rfl 0 rfl ?_
  refine v_iload_n C dX6_isBroken_16 rfl 2 rfl ?_
  refine v_invVI C (As := [.int (iI ((y0 : Nat) : Int))]) (q0 := 0) (ci := 6) (kX6_isNoCommit_in l g (mm := mm) (b1 := b1) (b2 := b2) (b3 := b3) (b4 := b4) (b5 := b5) (b6 := b6) (b7 := b7) (b8 := b8) (b9 := b9) (b10 := b10) (b11 := b11) (b12 := b12) (b13 := b13) (b14 := b14) (b15 := b15) (b16 := b16) (b17 := b17) (kinds := kinds) (tgs := tgs) (first := first) (second := second) (vals := vals) (qs := qs) (hds := hds) (An := An) (qi := qi) (qo := qo) (Tm := Tm) (Nw := Nw) (Kw := Kw) (ni := ni) (bc := bc) (cm := cm) (cn := cn) (qc := qc) (cd := cd) (ris := ris) (i0 := y0) (by omega) (by omega)) (cwV 1 C.2.2.2.2.1 gX6_isBroken_X6_isNoCommit rfl rfl rfl (by decide +kernel) ⟨Nat.le_of_ble_eq_true rfl, Nat.le_of_ble_eq_true rfl⟩) [wMM g mm b1 b2 b3 b4 b5 b6 b7 b8 b9 b10 b11 b12 b13 b14 b15 b16 b17 kinds ni cm first second An An Tm Tm bc hds tgs qc qi qo qs cn vals Nw Nw Kw Kw cd] [0] [] [.ref (mm)] (fun _ => [wMM g mm b1 b2 b3 b4 b5 b6 b7 b8 b9 b10 b11 b12 b13 b14 b15 b16 b17 kinds ni cm first second An An Tm Tm bc hds tgs qc qi qo qs cn vals Nw Nw Kw Kw cd]) (fun _ => wMM g mm b1 b2 b3 b4 b5 b6 b7 b8 b9 b10 b11 b12 b13 b14 b15 b16 b17 kinds ni cm first second An An Tm Tm bc hds tgs qc qi qo qs cn vals Nw Nw Kw Kw cd ++ ([])) rfl rfl rfl (fun _ => rfl) (fun _ => rfl) (fun _ => rfl) (fun _ => rfl) rfl rfl rfl rfl rfl (Nat.le_of_ble_eq_true rfl) dX6_isBroken_17 ⟨by decide, by decide⟩ (fun r_4 _ h_3 => ?_)
  subst h_3
  refine v_ifz_eq C 27 dX6_isBroken_20 (by decide) (fun _ => ?_) (fun h => nomatch h) 
  refine v_iconst C (z := 0) dX6_isBroken_27 ?_
  refine v_invVI C (As := [.int (iI (0))]) (q0 := 0) (ci := 6) (kX6_fails_z l g (mm := mm) (b1 := b1) (b2 := b2) (b3 := b3) (b4 := b4) (b5 := b5) (b6 := b6) (b7 := b7) (b8 := b8) (b9 := b9) (b10 := b10) (b11 := b11) (b12 := b12) (b13 := b13) (b14 := b14) (b15 := b15) (b16 := b16) (b17 := b17) (kinds := kinds) (tgs := tgs) (first := first) (second := second) (vals := vals) (qs := qs) (hds := hds) (An := An) (qi := qi) (qo := qo) (Tm := Tm) (Nw := Nw) (Kw := Kw) (ni := ni) (bc := bc) (cm := cm) (cn := cn) (qc := qc) (cd := cd) (ris := ris)  ) (cwV 1 C.2.2.2.2.1 gX6_isBroken_X6_fails rfl rfl rfl (by decide +kernel) ⟨Nat.le_of_ble_eq_true rfl, Nat.le_of_ble_eq_true rfl⟩) [wMM g mm b1 b2 b3 b4 b5 b6 b7 b8 b9 b10 b11 b12 b13 b14 b15 b16 b17 kinds ni cm first second An An Tm Tm bc hds tgs qc qi qo qs cn vals Nw Nw Kw Kw cd] [0] [] [] (fun _ => [wMM g mm b1 b2 b3 b4 b5 b6 b7 b8 b9 b10 b11 b12 b13 b14 b15 b16 b17 kinds ni cm first second An An Tm Tm bc hds tgs qc qi qo qs cn vals Nw Nw Kw Kw 0]) (fun _ => wMM g mm b1 b2 b3 b4 b5 b6 b7 b8 b9 b10 b11 b12 b13 b14 b15 b16 b17 kinds ni cm first second An An Tm Tm bc hds tgs qc qi qo qs cn vals Nw Nw Kw Kw 0 ++ ([])) rfl rfl rfl (fun _ => rfl) (fun _ => rfl) (fun _ => rfl) (fun _ => rfl) rfl rfl rfl rfl rfl (Nat.le_of_ble_eq_true rfl) dX6_isBroken_28 ⟨by decide, by decide⟩ (fun r_6 _ h_5 => ?_)
  subst h_5
  refine v_ifz_ne C 47 dX6_isBroken_31 (by decide) (fun h => nomatch h) (fun _ => ?_)
  refine v_aload_n C dX6_isBroken_34 rfl 0 rfl ?_
  refine v_iload_n C dX6_isBroken_35 rfl 1 rfl ?_
  refine v_iload_n C dX6_isBroken_36 rfl 2 rfl ?_
  refine v_invVI C (As := [.int (iI ((x0 : Nat) : Int)), .int (iI ((y0 : Nat) : Int))]) (q0 := 0) (ci := 6) (kX6_isWrongIn l g (mm := mm) (b1 := b1) (b2 := b2) (b3 := b3) (b4 := b4) (b5 := b5) (b6 := b6) (b7 := b7) (b8 := b8) (b9 := b9) (b10 := b10) (b11 := b11) (b12 := b12) (b13 := b13) (b14 := b14) (b15 := b15) (b16 := b16) (b17 := b17) (kinds := kinds) (tgs := tgs) (first := first) (second := second) (vals := vals) (qs := qs) (hds := hds) (An := An) (qi := qi) (qo := qo) (Tm := Tm) (Nw := Nw) (Kw := Kw) (ni := ni) (bc := bc) (cm := cm) (cn := cn) (qc := qc) (cd := 0) (ris := ris) (q0 := x0) (c0 := y0) hI (by omega) (by omega)) (cwV 2 C.2.2.2.2.1 gX6_isBroken_X6_isWrongIn rfl rfl rfl (by decide +kernel) ⟨Nat.le_of_ble_eq_true rfl, Nat.le_of_ble_eq_true rfl⟩) [wMM g mm b1 b2 b3 b4 b5 b6 b7 b8 b9 b10 b11 b12 b13 b14 b15 b16 b17 kinds ni cm first second An An Tm Tm bc hds tgs qc qi qo qs cn vals Nw Nw Kw Kw 0] [0] [] [] (fun _ => [wMM g mm b1 b2 b3 b4 b5 b6 b7 b8 b9 b10 b11 b12 b13 b14 b15 b16 b17 kinds ni cm first second An An Tm Tm bc hds tgs qc qi qo qs cn vals Nw Nw Kw Kw 0]) (fun _ => wMM g mm b1 b2 b3 b4 b5 b6 b7 b8 b9 b10 b11 b12 b13 b14 b15 b16 b17 kinds ni cm first second An An Tm Tm bc hds tgs qc qi qo qs cn vals Nw Nw Kw Kw 0 ++ ([])) rfl rfl rfl (fun _ => rfl) (fun _ => rfl) (fun _ => rfl) (fun _ => rfl) rfl rfl rfl rfl rfl (Nat.le_of_ble_eq_true rfl) dX6_isBroken_37 ⟨by decide, by decide⟩ (fun r_8 _ h_7 => ?_)
  subst h_7
  refine v_ifz_eq C 47 dX6_isBroken_40 (by decide) (fun c_9 => ?_) (fun c_9 => ?_)
  ·
    refine v_iconst C (z := 0) dX6_isBroken_47 ?_
    exact (v_zret C hr hl () rfl (by decide) (by decide) rfl (bz_f c_9) dX6_isBroken_48)
  ·
    refine v_iconst C (z := 1) dX6_isBroken_43 ?_
    refine v_goto C 48 dX6_isBroken_44 (by decide) ?_
    exact (v_zret C hr hl () rfl (by decide) (by decide) rfl (bz_t c_9) dX6_isBroken_48)
set_option maxHeartbeats 4000000 in
set_option maxRecDepth 100000 in
theorem kX6_isBroken_a (l : Launch) (g : vG) {mm b1 b2 b3 b4 b5 b6 b7 b8 b9 b10 b11 b12 b13 b14 b15 b16 b17 : Nat} {kinds tgs first second vals qs : Nat → Int} {hds An qi qo Tm Nw Kw ris : Nat → Nat} {ni bc cm cn qc cd : Nat} {x : Int} {y : Int} (hI : MI vals ris cn kinds tgs first second qs hds An qi qo Tm ni bc cm qc) (hx : b31 x) (hqx : ¬ (0 ≤ x ∧ x < ((qc : Nat) : Int))) (hy : b31 y)  : mI l g yX6_isBroken wsX6_isBroken ({ frames := 1, cells := 0, slots := 0, locals := 22 }) [.ref (mm), .int (iI (x)), .int (iI (y))] (wMM g mm b1 b2 b3 b4 b5 b6 b7 b8 b9 b10 b11 b12 b13 b14 b15 b16 b17 kinds ni cm first second An An Tm Tm bc hds tgs qc qi qo qs cn vals Nw Nw Kw Kw cd ++ ([])) (fun _ : Unit => wMM g mm b1 b2 b3 b4 b5 b6 b7 b8 b9 b10 b11 b12 b13 b14 b15 b16 b17 kinds ni cm first second An An Tm Tm bc hds tgs qc qi qo qs cn vals Nw Nw Kw Kw 1 ++ ([])) (fun _ _ => True) 0 0 := by
  refine mI_of (cc := cX6_isBroken) (maxL := 3) (ret := (some .boolean)) (own := RX6) (by decide) rfl rfl (Nat.le_of_ble_eq_true rfl) ?_
  intro p e s m args below meth c A C hr hl hin
  obtain ⟨hni, hbc1, hbc, hcm1, hcm, hcn1, hnm, hqc, hhd, htg, hf, hs, hfc, hsc, hAn, hTm, hao, hpal, hqb, hqi, htk, hkd⟩ := id hI
  have hx1 := hx.1
  have hx2 := hx.2
  have hy1 := hy.1
  have hy2 := hy.2
  refine v_aload_n C dX6_isBroken_0 rfl 0 rfl ?_
  refine v_iload_n C dX6_isBroken_1 rfl 1 rfl ?_
  refine v_iconst C (z := 0) dX6_isBroken_2 ?_
  refine v_aload_n C dX6_isBroken_3 rfl 0 rfl ?_
  refine v_get C 0 (kf := 12) rfl rfl (by decide) inX6_isBroken_6 lkX6_isBroken_175 rfl rfl dX6_isBroken_4 ?_
  refine v_iconst C (z := 1) dX6_isBroken_7 ?_
  refine v_isub C dX6_isBroken_8 ?_
  refine v_invSI C (As := [.int (iI (x)), .int (iI (0)), .int (iI ((((qc : Nat) : Int)) - 1))]) (kX6_in_f l g  (x := x) (y := 0) (z := (((qc : Nat) : Int)) - 1) ⟨by omega, by omega⟩ (b31_lit _ rfl) ⟨by omega, by omega⟩ (by omega)) (cwS 3 C.2.2.2.2.1 gX6_isBroken_X6_in rfl rfl rfl (by decide +kernel) ⟨Nat.le_of_ble_eq_true rfl, Nat.le_of_ble_eq_true rfl⟩) [wMM g mm b1 b2 b3 b4 b5 b6 b7 b8 b9 b10 b11 b12 b13 b14 b15 b16 b17 kinds ni cm first second An An Tm Tm bc hds tgs qc qi qo qs cn vals Nw Nw Kw Kw cd] [] [0] [.ref (mm)] (fun _ => [wMM g mm b1 b2 b3 b4 b5 b6 b7 b8 b9 b10 b11 b12 b13 b14 b15 b16 b17 kinds ni cm first second An An Tm Tm bc hds tgs qc qi qo qs cn vals Nw Nw Kw Kw cd]) (fun _ => wMM g mm b1 b2 b3 b4 b5 b6 b7 b8 b9 b10 b11 b12 b13 b14 b15 b16 b17 kinds ni cm first second An An Tm Tm bc hds tgs qc qi qo qs cn vals Nw Nw Kw Kw cd ++ ([])) rfl rfl rfl (fun _ => rfl) (fun _ => rfl) (fun _ => rfl) (fun _ => rfl) rfl rfl (Nat.le_of_ble_eq_true rfl) dX6_isBroken_9 ⟨by decide, by decide⟩ (fun r_2 _ h_1 => ?_)
  subst h_1
  refine v_ifz_eq C 23 dX6_isBroken_12 (by decide) (fun _ => ?_) (fun h => nomatch h) 
  refine v_iconst C (z := 1) dX6_isBroken_23 ?_
  refine v_goto C 28 dX6_isBroken_24 (by decide) ?_
  refine v_invVI C (As := [.int (iI (1))]) (q0 := 0) (ci := 6) (kX6_fails_p l g (mm := mm) (b1 := b1) (b2 := b2) (b3 := b3) (b4 := b4) (b5 := b5) (b6 := b6) (b7 := b7) (b8 := b8) (b9 := b9) (b10 := b10) (b11 := b11) (b12 := b12) (b13 := b13) (b14 := b14) (b15 := b15) (b16 := b16) (b17 := b17) (kinds := kinds) (tgs := tgs) (first := first) (second := second) (vals := vals) (qs := qs) (hds := hds) (An := An) (qi := qi) (qo := qo) (Tm := Tm) (Nw := Nw) (Kw := Kw) (ni := ni) (bc := bc) (cm := cm) (cn := cn) (qc := qc) (cd := cd) (ris := ris) (q := 1) (by decide)) (cwV 1 C.2.2.2.2.1 gX6_isBroken_X6_fails rfl rfl rfl (by decide +kernel) ⟨Nat.le_of_ble_eq_true rfl, Nat.le_of_ble_eq_true rfl⟩) [wMM g mm b1 b2 b3 b4 b5 b6 b7 b8 b9 b10 b11 b12 b13 b14 b15 b16 b17 kinds ni cm first second An An Tm Tm bc hds tgs qc qi qo qs cn vals Nw Nw Kw Kw cd] [0] [] [] (fun _ => [wMM g mm b1 b2 b3 b4 b5 b6 b7 b8 b9 b10 b11 b12 b13 b14 b15 b16 b17 kinds ni cm first second An An Tm Tm bc hds tgs qc qi qo qs cn vals Nw Nw Kw Kw 1]) (fun _ => wMM g mm b1 b2 b3 b4 b5 b6 b7 b8 b9 b10 b11 b12 b13 b14 b15 b16 b17 kinds ni cm first second An An Tm Tm bc hds tgs qc qi qo qs cn vals Nw Nw Kw Kw 1 ++ ([])) rfl rfl rfl (fun _ => rfl) (fun _ => rfl) (fun _ => rfl) (fun _ => rfl) rfl rfl rfl rfl rfl (Nat.le_of_ble_eq_true rfl) dX6_isBroken_28 ⟨by decide, by decide⟩ (fun r_4 _ h_3 => ?_)
  subst h_3
  refine v_ifz_ne C 47 dX6_isBroken_31 (by decide) (fun _ => ?_) (fun h => nomatch h) 
  refine v_iconst C (z := 0) dX6_isBroken_47 ?_
  exact (v_zret C hr hl () rfl (by decide) (by decide) rfl trivial dX6_isBroken_48)
set_option maxHeartbeats 4000000 in
set_option maxRecDepth 100000 in
theorem kX6_isBroken_b (l : Launch) (g : vG) {mm b1 b2 b3 b4 b5 b6 b7 b8 b9 b10 b11 b12 b13 b14 b15 b16 b17 : Nat} {kinds tgs first second vals qs : Nat → Int} {hds An qi qo Tm Nw Kw ris : Nat → Nat} {ni bc cm cn qc cd : Nat} {x0 : Nat} {y : Int} (hI : MI vals ris cn kinds tgs first second qs hds An qi qo Tm ni bc cm qc) (hx0 : x0 < qc) (hy : b31 y) (hqy : ¬ (0 ≤ y ∧ y < ((cm : Nat) : Int)))  : mI l g yX6_isBroken wsX6_isBroken ({ frames := 2, cells := 0, slots := 0, locals := 43 }) [.ref (mm), .int (iI ((x0 : Nat) : Int)), .int (iI (y))] (wMM g mm b1 b2 b3 b4 b5 b6 b7 b8 b9 b10 b11 b12 b13 b14 b15 b16 b17 kinds ni cm first second An An Tm Tm bc hds tgs qc qi qo qs cn vals Nw Nw Kw Kw cd ++ ([])) (fun _ : Unit => wMM g mm b1 b2 b3 b4 b5 b6 b7 b8 b9 b10 b11 b12 b13 b14 b15 b16 b17 kinds ni cm first second An An Tm Tm bc hds tgs qc qi qo qs cn vals Nw Nw Kw Kw 1 ++ ([])) (fun _ _ => True) 0 0 := by
  refine mI_of (cc := cX6_isBroken) (maxL := 3) (ret := (some .boolean)) (own := RX6) (by decide) rfl rfl (Nat.le_of_ble_eq_true rfl) ?_
  intro p e s m args below meth c A C hr hl hin
  obtain ⟨hni, hbc1, hbc, hcm1, hcm, hcn1, hnm, hqc, hhd, htg, hf, hs, hfc, hsc, hAn, hTm, hao, hpal, hqb, hqi, htk, hkd⟩ := id hI
  have hy1 := hy.1
  have hy2 := hy.2
  refine v_aload_n C dX6_isBroken_0 rfl 0 rfl ?_
  refine v_iload_n C dX6_isBroken_1 rfl 1 rfl ?_
  refine v_iconst C (z := 0) dX6_isBroken_2 ?_
  refine v_aload_n C dX6_isBroken_3 rfl 0 rfl ?_
  refine v_get C 0 (kf := 12) rfl rfl (by decide) inX6_isBroken_6 lkX6_isBroken_175 rfl rfl dX6_isBroken_4 ?_
  refine v_iconst C (z := 1) dX6_isBroken_7 ?_
  refine v_isub C dX6_isBroken_8 ?_
  refine v_invSI C (As := [.int (iI ((x0 : Nat) : Int)), .int (iI (0)), .int (iI ((((qc : Nat) : Int)) - 1))]) (kX6_in_t l g  (x := ((x0 : Nat) : Int)) (y := 0) (z := (((qc : Nat) : Int)) - 1) ⟨by omega, by omega⟩ (b31_lit _ rfl) ⟨by omega, by omega⟩ (by omega) (by omega)) (cwS 3 C.2.2.2.2.1 gX6_isBroken_X6_in rfl rfl rfl (by decide +kernel) ⟨Nat.le_of_ble_eq_true rfl, Nat.le_of_ble_eq_true rfl⟩) [wMM g mm b1 b2 b3 b4 b5 b6 b7 b8 b9 b10 b11 b12 b13 b14 b15 b16 b17 kinds ni cm first second An An Tm Tm bc hds tgs qc qi qo qs cn vals Nw Nw Kw Kw cd] [] [0] [.ref (mm)] (fun _ => [wMM g mm b1 b2 b3 b4 b5 b6 b7 b8 b9 b10 b11 b12 b13 b14 b15 b16 b17 kinds ni cm first second An An Tm Tm bc hds tgs qc qi qo qs cn vals Nw Nw Kw Kw cd]) (fun _ => wMM g mm b1 b2 b3 b4 b5 b6 b7 b8 b9 b10 b11 b12 b13 b14 b15 b16 b17 kinds ni cm first second An An Tm Tm bc hds tgs qc qi qo qs cn vals Nw Nw Kw Kw cd ++ ([])) rfl rfl rfl (fun _ => rfl) (fun _ => rfl) (fun _ => rfl) (fun _ => rfl) rfl rfl (Nat.le_of_ble_eq_true rfl) dX6_isBroken_9 ⟨by decide, by decide⟩ (fun r_2 _ h_1 => ?_)
  subst h_1
  refine v_ifz_eq C 23 dX6_isBroken_12 (by decide) (fun h => nomatch h) (fun _ => ?_)
  refine v_aload_n C dX6_isBroken_15 rfl 0 rfl ?_
  refine v_iload_n C dX6_isBroken_16 rfl 2 rfl ?_
  refine v_invVI C (As := [.int (iI (y))]) (q0 := 0) (ci := 6) (kX6_isNoCommit_out l g (mm := mm) (b1 := b1) (b2 := b2) (b3 := b3) (b4 := b4) (b5 := b5) (b6 := b6) (b7 := b7) (b8 := b8) (b9 := b9) (b10 := b10) (b11 := b11) (b12 := b12) (b13 := b13) (b14 := b14) (b15 := b15) (b16 := b16) (b17 := b17) (kinds := kinds) (tgs := tgs) (first := first) (second := second) (vals := vals) (qs := qs) (hds := hds) (An := An) (qi := qi) (qo := qo) (Tm := Tm) (Nw := Nw) (Kw := Kw) (ni := ni) (bc := bc) (cm := cm) (cn := cn) (qc := qc) (cd := cd) (ris := ris) (x := y) ⟨by omega, by omega⟩ (by omega) (by omega)) (cwV 1 C.2.2.2.2.1 gX6_isBroken_X6_isNoCommit rfl rfl rfl (by decide +kernel) ⟨Nat.le_of_ble_eq_true rfl, Nat.le_of_ble_eq_true rfl⟩) [wMM g mm b1 b2 b3 b4 b5 b6 b7 b8 b9 b10 b11 b12 b13 b14 b15 b16 b17 kinds ni cm first second An An Tm Tm bc hds tgs qc qi qo qs cn vals Nw Nw Kw Kw cd] [0] [] [.ref (mm)] (fun _ => [wMM g mm b1 b2 b3 b4 b5 b6 b7 b8 b9 b10 b11 b12 b13 b14 b15 b16 b17 kinds ni cm first second An An Tm Tm bc hds tgs qc qi qo qs cn vals Nw Nw Kw Kw cd]) (fun _ => wMM g mm b1 b2 b3 b4 b5 b6 b7 b8 b9 b10 b11 b12 b13 b14 b15 b16 b17 kinds ni cm first second An An Tm Tm bc hds tgs qc qi qo qs cn vals Nw Nw Kw Kw cd ++ ([])) rfl rfl rfl (fun _ => rfl) (fun _ => rfl) (fun _ => rfl) (fun _ => rfl) rfl rfl rfl rfl rfl (Nat.le_of_ble_eq_true rfl) dX6_isBroken_17 ⟨by decide, by decide⟩ (fun r_4 _ h_3 => ?_)
  subst h_3
  refine v_ifz_eq C 27 dX6_isBroken_20 (by decide) (fun h => nomatch h) (fun _ => ?_)
  refine v_iconst C (z := 1) dX6_isBroken_23 ?_
  refine v_goto C 28 dX6_isBroken_24 (by decide) ?_
  refine v_invVI C (As := [.int (iI (1))]) (q0 := 0) (ci := 6) (kX6_fails_p l g (mm := mm) (b1 := b1) (b2 := b2) (b3 := b3) (b4 := b4) (b5 := b5) (b6 := b6) (b7 := b7) (b8 := b8) (b9 := b9) (b10 := b10) (b11 := b11) (b12 := b12) (b13 := b13) (b14 := b14) (b15 := b15) (b16 := b16) (b17 := b17) (kinds := kinds) (tgs := tgs) (first := first) (second := second) (vals := vals) (qs := qs) (hds := hds) (An := An) (qi := qi) (qo := qo) (Tm := Tm) (Nw := Nw) (Kw := Kw) (ni := ni) (bc := bc) (cm := cm) (cn := cn) (qc := qc) (cd := cd) (ris := ris) (q := 1) (by decide)) (cwV 1 C.2.2.2.2.1 gX6_isBroken_X6_fails rfl rfl rfl (by decide +kernel) ⟨Nat.le_of_ble_eq_true rfl, Nat.le_of_ble_eq_true rfl⟩) [wMM g mm b1 b2 b3 b4 b5 b6 b7 b8 b9 b10 b11 b12 b13 b14 b15 b16 b17 kinds ni cm first second An An Tm Tm bc hds tgs qc qi qo qs cn vals Nw Nw Kw Kw cd] [0] [] [] (fun _ => [wMM g mm b1 b2 b3 b4 b5 b6 b7 b8 b9 b10 b11 b12 b13 b14 b15 b16 b17 kinds ni cm first second An An Tm Tm bc hds tgs qc qi qo qs cn vals Nw Nw Kw Kw 1]) (fun _ => wMM g mm b1 b2 b3 b4 b5 b6 b7 b8 b9 b10 b11 b12 b13 b14 b15 b16 b17 kinds ni cm first second An An Tm Tm bc hds tgs qc qi qo qs cn vals Nw Nw Kw Kw 1 ++ ([])) rfl rfl rfl (fun _ => rfl) (fun _ => rfl) (fun _ => rfl) (fun _ => rfl) rfl rfl rfl rfl rfl (Nat.le_of_ble_eq_true rfl) dX6_isBroken_28 ⟨by decide, by decide⟩ (fun r_6 _ h_5 => ?_)
  subst h_5
  refine v_ifz_ne C 47 dX6_isBroken_31 (by decide) (fun _ => ?_) (fun h => nomatch h) 
  refine v_iconst C (z := 0) dX6_isBroken_47 ?_
  exact (v_zret C hr hl () rfl (by decide) (by decide) rfl trivial dX6_isBroken_48)
theorem inX6_broken_6 : ∀ w ∈ u_ws RX6 TX6 23, w ∈ wsX6_broken := by decide +kernel
theorem lkX6_broken_175 : Cond.fieldLink RX6 175 "MergeAtelierModel" "quotes" "I" ∈ wsX6_broken := by decide +kernel
set_option maxHeartbeats 4000000 in
set_option maxRecDepth 100000 in
theorem kX6_broken_ok (l : Launch) (g : vG) {mm b1 b2 b3 b4 b5 b6 b7 b8 b9 b10 b11 b12 b13 b14 b15 b16 b17 : Nat} {kinds tgs first second vals qs : Nat → Int} {hds An qi qo Tm Nw Kw ris : Nat → Nat} {ni bc cm cn qc cd : Nat} {x0 : Nat} (hI : MI vals ris cn kinds tgs first second qs hds An qi qo Tm ni bc cm qc) (hx0 : x0 < cm)  : mI l g yX6_broken wsX6_broken ({ frames := 4, cells := 0, slots := 0, locals := 107 }) [.ref (mm), .int (iI ((x0 : Nat) : Int))] (wMM g mm b1 b2 b3 b4 b5 b6 b7 b8 b9 b10 b11 b12 b13 b14 b15 b16 b17 kinds ni cm first second An An Tm Tm bc hds tgs qc qi qo qs cn vals Nw Nw Kw Kw cd ++ ([])) (fun _ : Unit => wMM g mm b1 b2 b3 b4 b5 b6 b7 b8 b9 b10 b11 b12 b13 b14 b15 b16 b17 kinds ni cm first second An An Tm Tm bc hds tgs qc qi qo qs cn vals Nw Nw Kw Kw 0 ++ ([])) (fun v _ => v = iI ((fb_ct (fun q => decide (qst vals cn (qs q) (Tm (12 * x0 + qi q)) (Tm (12 * x0 + qo q)) = 1)) qc : Nat) : Int)) 0 0 := by
  refine mI_of (cc := cX6_broken) (maxL := 4) (ret := (some .int)) (own := RX6) (by decide) rfl rfl (Nat.le_of_ble_eq_true rfl) ?_
  intro p e s m args below meth c A C hr hl hin
  obtain ⟨hni, hbc1, hbc, hcm1, hcm, hcn1, hnm, hqc, hhd, htg, hf, hs, hfc, hsc, hAn, hTm, hao, hpal, hqb, hqi, htk, hkd⟩ := id hI
  refine v_aload_n C dX6_broken_0 rfl 0 rfl ?_
  refine v_iload_n C dX6_broken_1 rfl 1 rfl ?_
  refine v_invVI C (As := [.int (iI ((x0 : Nat) : Int))]) (q0 := 0) (ci := 6) (kX6_isNone_in l g (mm := mm) (b1 := b1) (b2 := b2) (b3 := b3) (b4 := b4) (b5 := b5) (b6 := b6) (b7 := b7) (b8 := b8) (b9 := b9) (b10 := b10) (b11 := b11) (b12 := b12) (b13 := b13) (b14 := b14) (b15 := b15) (b16 := b16) (b17 := b17) (kinds := kinds) (tgs := tgs) (first := first) (second := second) (vals := vals) (qs := qs) (hds := hds) (An := An) (qi := qi) (qo := qo) (Tm := Tm) (Nw := Nw) (Kw := Kw) (ni := ni) (bc := bc) (cm := cm) (cn := cn) (qc := qc) (cd := cd) (ris := ris) (i0 := x0) (by omega) (by omega)) (cwV 1 C.2.2.2.2.1 gX6_broken_X6_isNone rfl rfl rfl (by decide +kernel) ⟨Nat.le_of_ble_eq_true rfl, Nat.le_of_ble_eq_true rfl⟩) [wMM g mm b1 b2 b3 b4 b5 b6 b7 b8 b9 b10 b11 b12 b13 b14 b15 b16 b17 kinds ni cm first second An An Tm Tm bc hds tgs qc qi qo qs cn vals Nw Nw Kw Kw cd] [0] [] [] (fun _ => [wMM g mm b1 b2 b3 b4 b5 b6 b7 b8 b9 b10 b11 b12 b13 b14 b15 b16 b17 kinds ni cm first second An An Tm Tm bc hds tgs qc qi qo qs cn vals Nw Nw Kw Kw 0]) (fun _ => wMM g mm b1 b2 b3 b4 b5 b6 b7 b8 b9 b10 b11 b12 b13 b14 b15 b16 b17 kinds ni cm first second An An Tm Tm bc hds tgs qc qi qo qs cn vals Nw Nw Kw Kw 0 ++ ([])) rfl rfl rfl (fun _ => rfl) (fun _ => rfl) (fun _ => rfl) (fun _ => rfl) rfl rfl rfl rfl rfl (Nat.le_of_ble_eq_true rfl) dX6_broken_2 ⟨by decide, by decide⟩ (fun r_2 _ h_1 => ?_)
  subst h_1
  refine v_ifz_eq C 10 dX6_broken_5 (by decide) (fun _ => ?_) (fun h => nomatch h) 
  refine v_iconst C (z := 0) dX6_broken_10 ?_
  refine v_istore_n C [(2, .int (iI (0))), (0, .ref (mm)), (1, .int (iI ((x0 : Nat) : Int)))] dX6_broken_11 rfl (by decide) rfl ?_
  refine v_iconst C (z := 0) dX6_broken_12 ?_
  refine v_istore_n C [(3, .int (iI (0))), (2, .int (iI (0))), (0, .ref (mm)), (1, .int (iI ((x0 : Nat) : Int)))] dX6_broken_13 rfl (by decide) rfl ?_
  refine v_lv (lv' := [(0, .ref (mm)), (1, .int (iI ((x0 : Nat) : Int))), (2, .int (iI ((fb_ct (fun q => decide (qst vals cn (qs q) (Tm (12 * x0 + qi q)) (Tm (12 * x0 + qo q)) = 1)) 0 : Nat) : Int))), (3, .int (iI ((0 : Nat) : Int)))]) [2, 3, 1, 0] rfl ?_
  refine v_ws (ws' := wMM g mm b1 b2 b3 b4 b5 b6 b7 b8 b9 b10 b11 b12 b13 b14 b15 b16 b17 kinds ni cm first second An An Tm Tm bc hds tgs qc qi qo qs cn vals Nw Nw Kw Kw 0 ++ ([])) rfl ?_
  refine v_lp1 (X := Nat) (fun q => wMM g mm b1 b2 b3 b4 b5 b6 b7 b8 b9 b10 b11 b12 b13 b14 b15 b16 b17 kinds ni cm first second An An Tm Tm bc hds tgs qc qi qo qs cn vals Nw Nw Kw Kw 0 ++ ([])) (fun q => [(0, .ref (mm)), (1, .int (iI ((x0 : Nat) : Int))), (2, .int (iI ((fb_ct (fun q => decide (qst vals cn (qs q) (Tm (12 * x0 + qi q)) (Tm (12 * x0 + qo q)) = 1)) q : Nat) : Int))), (3, .int (iI ((q : Nat) : Int)))]) (fun q => qc - q) (fun q => q ≤ qc) ?_ (0) (Nat.zero_le _)
  intro q hJ14 ih14
  try dsimp only at hJ14 ⊢
  refine v_iload_n C dX6_broken_14 rfl 3 rfl ?_
  refine v_aload_n C dX6_broken_15 rfl 0 rfl ?_
  refine v_get C 0 (kf := 12) rfl rfl (by decide) inX6_broken_6 lkX6_broken_175 rfl rfl dX6_broken_16 ?_
  refine v_icmp_ge C 45 dX6_broken_19 (by decide) ⟨by omega, by omega⟩ ⟨by omega, by omega⟩ (fun c_3 => ?_) (fun c_3 => ?_)
  ·
    obtain rfl : qc = q := by omega
    refine v_iload_n C dX6_broken_45 rfl 2 rfl ?_
    exact (v_iret C hr hl () (by decide) (by decide) rfl rfl dX6_broken_46)
  ·
    refine v_iload_n C dX6_broken_22 rfl 2 rfl ?_
    refine v_aload_n C dX6_broken_23 rfl 0 rfl ?_
    refine v_iload_n C dX6_broken_24 rfl 3 rfl ?_
    refine v_iload_n C dX6_broken_25 rfl 1 rfl ?_
    refine v_invVI C (As := [.int (iI ((q : Nat) : Int)), .int (iI ((x0 : Nat) : Int))]) (q0 := 0) (ci := 6) (kX6_isWrongIn l g (mm := mm) (b1 := b1) (b2 := b2) (b3 := b3) (b4 := b4) (b5 := b5) (b6 := b6) (b7 := b7) (b8 := b8) (b9 := b9) (b10 := b10) (b11 := b11) (b12 := b12) (b13 := b13) (b14 := b14) (b15 := b15) (b16 := b16) (b17 := b17) (kinds := kinds) (tgs := tgs) (first := first) (second := second) (vals := vals) (qs := qs) (hds := hds) (An := An) (qi := qi) (qo := qo) (Tm := Tm) (Nw := Nw) (Kw := Kw) (ni := ni) (bc := bc) (cm := cm) (cn := cn) (qc := qc) (cd := 0) (ris := ris) (q0 := q) (c0 := x0) hI (by omega) (by omega)) (cwV 2 C.2.2.2.2.1 gX6_broken_X6_isWrongIn rfl rfl rfl (by decide +kernel) ⟨Nat.le_of_ble_eq_true rfl, Nat.le_of_ble_eq_true rfl⟩) [wMM g mm b1 b2 b3 b4 b5 b6 b7 b8 b9 b10 b11 b12 b13 b14 b15 b16 b17 kinds ni cm first second An An Tm Tm bc hds tgs qc qi qo qs cn vals Nw Nw Kw Kw 0] [0] [] [.int (iI ((fb_ct (fun q => decide (qst vals cn (qs q) (Tm (12 * x0 + qi q)) (Tm (12 * x0 + qo q)) = 1)) q : Nat) : Int))] (fun _ => [wMM g mm b1 b2 b3 b4 b5 b6 b7 b8 b9 b10 b11 b12 b13 b14 b15 b16 b17 kinds ni cm first second An An Tm Tm bc hds tgs qc qi qo qs cn vals Nw Nw Kw Kw 0]) (fun _ => wMM g mm b1 b2 b3 b4 b5 b6 b7 b8 b9 b10 b11 b12 b13 b14 b15 b16 b17 kinds ni cm first second An An Tm Tm bc hds tgs qc qi qo qs cn vals Nw Nw Kw Kw 0 ++ ([])) rfl rfl rfl (fun _ => rfl) (fun _ => rfl) (fun _ => rfl) (fun _ => rfl) rfl rfl rfl rfl rfl (Nat.le_of_ble_eq_true rfl) dX6_broken_26 ⟨by decide, by decide⟩ (fun r_5 _ h_4 => ?_)
    subst h_4
    refine v_ifz_eq C 36 dX6_broken_29 (by decide) (fun c_6 => ?_) (fun c_6 => ?_)
    ·
      refine v_iconst C (z := 0) dX6_broken_36 ?_
      refine v_iadd C dX6_broken_37 ?_
      rw [show (((fb_ct (fun q => decide (qst vals cn (qs q) (Tm (12 * x0 + qi q)) (Tm (12 * x0 + qo q)) = 1)) q : Nat) : Int)) + 0 = (((fb_ct (fun q => decide (qst vals cn (qs q) (Tm (12 * x0 + qi q)) (Tm (12 * x0 + qo q)) = 1)) q) + 0 : Nat) : Int) from rfl]
      refine v_istore_n C [(2, .int (iI (((fb_ct (fun q => decide (qst vals cn (qs q) (Tm (12 * x0 + qi q)) (Tm (12 * x0 + qo q)) = 1)) q) + 0 : Nat) : Int))), (0, .ref (mm)), (1, .int (iI ((x0 : Nat) : Int))), (3, .int (iI ((q : Nat) : Int)))] dX6_broken_38 rfl (by decide) rfl ?_
      refine v_iinc C [(3, .int (iI (((q : Nat) : Int) + 1))), (2, .int (iI (((fb_ct (fun q => decide (qst vals cn (qs q) (Tm (12 * x0 + qi q)) (Tm (12 * x0 + qo q)) = 1)) q) + 0 : Nat) : Int))), (0, .ref (mm)), (1, .int (iI ((x0 : Nat) : Int)))] dX6_broken_39 3 rfl (by decide) rfl ?_
      rw [show ((q : Nat) : Int) + 1 = ((q + 1 : Nat) : Int) from rfl]
      refine v_goto C 14 dX6_broken_42 (by decide) ?_
      refine v_lv (lv' := [(0, .ref (mm)), (1, .int (iI ((x0 : Nat) : Int))), (2, .int (iI (((fb_ct (fun q => decide (qst vals cn (qs q) (Tm (12 * x0 + qi q)) (Tm (12 * x0 + qo q)) = 1)) q) + 0 : Nat) : Int))), (3, .int (iI ((q + 1 : Nat) : Int)))]) [2, 3, 1, 0] rfl ?_
      rw [show (((fb_ct (fun q => decide (qst vals cn (qs q) (Tm (12 * x0 + qi q)) (Tm (12 * x0 + qo q)) = 1)) q) + 0 : Nat) : Int) = ((fb_ct (fun q => decide (qst vals cn (qs q) (Tm (12 * x0 + qi q)) (Tm (12 * x0 + qo q)) = 1)) (q + 1) : Nat) : Int) from (ct_fz c_6)]
      refine v_ws (ws' := wMM g mm b1 b2 b3 b4 b5 b6 b7 b8 b9 b10 b11 b12 b13 b14 b15 b16 b17 kinds ni cm first second An An Tm Tm bc hds tgs qc qi qo qs cn vals Nw Nw Kw Kw 0 ++ ([])) rfl ?_
      exact ih14 (q + 1) (by omega) (by omega)
    ·
      refine v_iconst C (z := 1) dX6_broken_32 ?_
      refine v_goto C 37 dX6_broken_33 (by decide) ?_
      refine v_iadd C dX6_broken_37 ?_
      rw [show (((fb_ct (fun q => decide (qst vals cn (qs q) (Tm (12 * x0 + qi q)) (Tm (12 * x0 + qo q)) = 1)) q : Nat) : Int)) + 1 = (((fb_ct (fun q => decide (qst vals cn (qs q) (Tm (12 * x0 + qi q)) (Tm (12 * x0 + qo q)) = 1)) q) + 1 : Nat) : Int) from rfl]
      refine v_istore_n C [(2, .int (iI (((fb_ct (fun q => decide (qst vals cn (qs q) (Tm (12 * x0 + qi q)) (Tm (12 * x0 + qo q)) = 1)) q) + 1 : Nat) : Int))), (0, .ref (mm)), (1, .int (iI ((x0 : Nat) : Int))), (3, .int (iI ((q : Nat) : Int)))] dX6_broken_38 rfl (by decide) rfl ?_
      refine v_iinc C [(3, .int (iI (((q : Nat) : Int) + 1))), (2, .int (iI (((fb_ct (fun q => decide (qst vals cn (qs q) (Tm (12 * x0 + qi q)) (Tm (12 * x0 + qo q)) = 1)) q) + 1 : Nat) : Int))), (0, .ref (mm)), (1, .int (iI ((x0 : Nat) : Int)))] dX6_broken_39 3 rfl (by decide) rfl ?_
      rw [show ((q : Nat) : Int) + 1 = ((q + 1 : Nat) : Int) from rfl]
      refine v_goto C 14 dX6_broken_42 (by decide) ?_
      refine v_lv (lv' := [(0, .ref (mm)), (1, .int (iI ((x0 : Nat) : Int))), (2, .int (iI (((fb_ct (fun q => decide (qst vals cn (qs q) (Tm (12 * x0 + qi q)) (Tm (12 * x0 + qo q)) = 1)) q) + 1 : Nat) : Int))), (3, .int (iI ((q + 1 : Nat) : Int)))]) [2, 3, 1, 0] rfl ?_
      rw [show (((fb_ct (fun q => decide (qst vals cn (qs q) (Tm (12 * x0 + qi q)) (Tm (12 * x0 + qo q)) = 1)) q) + 1 : Nat) : Int) = ((fb_ct (fun q => decide (qst vals cn (qs q) (Tm (12 * x0 + qi q)) (Tm (12 * x0 + qo q)) = 1)) (q + 1) : Nat) : Int) from (ct_tz c_6)]
      refine v_ws (ws' := wMM g mm b1 b2 b3 b4 b5 b6 b7 b8 b9 b10 b11 b12 b13 b14 b15 b16 b17 kinds ni cm first second An An Tm Tm bc hds tgs qc qi qo qs cn vals Nw Nw Kw Kw 0 ++ ([])) rfl ?_
      exact ih14 (q + 1) (by omega) (by omega)
set_option maxHeartbeats 4000000 in
set_option maxRecDepth 100000 in
theorem kX6_broken_a (l : Launch) (g : vG) {mm b1 b2 b3 b4 b5 b6 b7 b8 b9 b10 b11 b12 b13 b14 b15 b16 b17 : Nat} {kinds tgs first second vals qs : Nat → Int} {hds An qi qo Tm Nw Kw ris : Nat → Nat} {ni bc cm cn qc cd : Nat} {x : Int} (hI : MI vals ris cn kinds tgs first second qs hds An qi qo Tm ni bc cm qc) (hx : b31 x) (hqx : ¬ (0 ≤ x ∧ x < ((cm : Nat) : Int)))  : mI l g yX6_broken wsX6_broken ({ frames := 3, cells := 0, slots := 0, locals := 64 }) [.ref (mm), .int (iI (x))] (wMM g mm b1 b2 b3 b4 b5 b6 b7 b8 b9 b10 b11 b12 b13 b14 b15 b16 b17 kinds ni cm first second An An Tm Tm bc hds tgs qc qi qo qs cn vals Nw Nw Kw Kw cd ++ ([])) (fun _ : Unit => wMM g mm b1 b2 b3 b4 b5 b6 b7 b8 b9 b10 b11 b12 b13 b14 b15 b16 b17 kinds ni cm first second An An Tm Tm bc hds tgs qc qi qo qs cn vals Nw Nw Kw Kw 1 ++ ([])) (fun _ _ => True) 0 0 := by
  refine mI_of (cc := cX6_broken) (maxL := 4) (ret := (some .int)) (own := RX6) (by decide) rfl rfl (Nat.le_of_ble_eq_true rfl) ?_
  intro p e s m args below meth c A C hr hl hin
  obtain ⟨hni, hbc1, hbc, hcm1, hcm, hcn1, hnm, hqc, hhd, htg, hf, hs, hfc, hsc, hAn, hTm, hao, hpal, hqb, hqi, htk, hkd⟩ := id hI
  have hx1 := hx.1
  have hx2 := hx.2
  refine v_aload_n C dX6_broken_0 rfl 0 rfl ?_
  refine v_iload_n C dX6_broken_1 rfl 1 rfl ?_
  refine v_invVI C (As := [.int (iI (x))]) (q0 := 0) (ci := 6) (kX6_isNone_out l g (mm := mm) (b1 := b1) (b2 := b2) (b3 := b3) (b4 := b4) (b5 := b5) (b6 := b6) (b7 := b7) (b8 := b8) (b9 := b9) (b10 := b10) (b11 := b11) (b12 := b12) (b13 := b13) (b14 := b14) (b15 := b15) (b16 := b16) (b17 := b17) (kinds := kinds) (tgs := tgs) (first := first) (second := second) (vals := vals) (qs := qs) (hds := hds) (An := An) (qi := qi) (qo := qo) (Tm := Tm) (Nw := Nw) (Kw := Kw) (ni := ni) (bc := bc) (cm := cm) (cn := cn) (qc := qc) (cd := cd) (ris := ris) (x := x) ⟨by omega, by omega⟩ (by omega) (by omega)) (cwV 1 C.2.2.2.2.1 gX6_broken_X6_isNone rfl rfl rfl (by decide +kernel) ⟨Nat.le_of_ble_eq_true rfl, Nat.le_of_ble_eq_true rfl⟩) [wMM g mm b1 b2 b3 b4 b5 b6 b7 b8 b9 b10 b11 b12 b13 b14 b15 b16 b17 kinds ni cm first second An An Tm Tm bc hds tgs qc qi qo qs cn vals Nw Nw Kw Kw cd] [0] [] [] (fun _ => [wMM g mm b1 b2 b3 b4 b5 b6 b7 b8 b9 b10 b11 b12 b13 b14 b15 b16 b17 kinds ni cm first second An An Tm Tm bc hds tgs qc qi qo qs cn vals Nw Nw Kw Kw 1]) (fun _ => wMM g mm b1 b2 b3 b4 b5 b6 b7 b8 b9 b10 b11 b12 b13 b14 b15 b16 b17 kinds ni cm first second An An Tm Tm bc hds tgs qc qi qo qs cn vals Nw Nw Kw Kw 1 ++ ([])) rfl rfl rfl (fun _ => rfl) (fun _ => rfl) (fun _ => rfl) (fun _ => rfl) rfl rfl rfl rfl rfl (Nat.le_of_ble_eq_true rfl) dX6_broken_2 ⟨by decide, by decide⟩ (fun r_2 _ h_1 => ?_)
  subst h_1
  refine v_ifz_eq C 10 dX6_broken_5 (by decide) (fun h => nomatch h) (fun _ => ?_)
  refine v_iconst C (z := 0) dX6_broken_8 ?_
  exact (v_iret C hr hl () (by decide) (by decide) rfl trivial dX6_broken_9)
theorem inX6_sum_6 : ∀ w ∈ u_ws RX6 TX6 23, w ∈ wsX6_sum := by decide +kernel
theorem lkX6_sum_76 : Cond.fieldLink RX6 76 "MergeAtelierModel" "items" "I" ∈ wsX6_sum := by decide +kernel
theorem lkX6_sum_31 : Cond.fieldLink RX6 31 "MergeAtelierModel" "low" "[J" ∈ wsX6_sum := by decide +kernel
theorem lkX6_sum_34 : Cond.fieldLink RX6 34 "MergeAtelierModel" "high" "[J" ∈ wsX6_sum := by decide +kernel
theorem lkX6_sum_58 : Cond.fieldLink RX6 58 "MergeAtelierModel" "values" "[I" ∈ wsX6_sum := by decide +kernel
set_option maxHeartbeats 4000000 in
set_option maxRecDepth 100000 in
theorem kX6_sum_ok (l : Launch) (g : vG) {mm b1 b2 b3 b4 b5 b6 b7 b8 b9 b10 b11 b12 b13 b14 b15 b16 b17 : Nat} {kinds tgs first second vals qs : Nat → Int} {hds An qi qo Tm Nw Kw ris : Nat → Nat} {ni bc cm cn qc cd : Nat} {x0 : Nat} (hI : MI vals ris cn kinds tgs first second qs hds An qi qo Tm ni bc cm qc) (hx0 : x0 < cm)  : mL l g yX6_sum wsX6_sum ({ frames := 3, cells := 0, slots := 0, locals := 72 }) [.ref (mm), .int (iI ((x0 : Nat) : Int))] (wMM g mm b1 b2 b3 b4 b5 b6 b7 b8 b9 b10 b11 b12 b13 b14 b15 b16 b17 kinds ni cm first second An An Tm Tm bc hds tgs qc qi qo qs cn vals Nw Nw Kw Kw cd ++ ([])) (fun _ : Unit => wMM g mm b1 b2 b3 b4 b5 b6 b7 b8 b9 b10 b11 b12 b13 b14 b15 b16 b17 kinds ni cm first second An An Tm Tm bc hds tgs qc qi qo qs cn vals Nw Nw Kw Kw 0 ++ ([])) (fun v _ => v = jI (smF Tm vals cn x0 ni)) 0 0 := by
  refine mL_of (cc := cX6_sum) (maxL := 6) (ret := (some .long)) (own := RX6) (by decide) rfl rfl (Nat.le_of_ble_eq_true rfl) ?_
  intro p e s m args below meth c A C hr hl hin
  obtain ⟨hni, hbc1, hbc, hcm1, hcm, hcn1, hnm, hqc, hhd, htg, hf, hs, hfc, hsc, hAn, hTm, hao, hpal, hqb, hqi, htk, hkd⟩ := id hI
  refine v_aload_n C dX6_sum_0 rfl 0 rfl ?_
  refine v_iload_n C dX6_sum_1 rfl 1 rfl ?_
  refine v_invVI C (As := [.int (iI ((x0 : Nat) : Int))]) (q0 := 0) (ci := 6) (kX6_isNone_in l g (mm := mm) (b1 := b1) (b2 := b2) (b3 := b3) (b4 := b4) (b5 := b5) (b6 := b6) (b7 := b7) (b8 := b8) (b9 := b9) (b10 := b10) (b11 := b11) (b12 := b12) (b13 := b13) (b14 := b14) (b15 := b15) (b16 := b16) (b17 := b17) (kinds := kinds) (tgs := tgs) (first := first) (second := second) (vals := vals) (qs := qs) (hds := hds) (An := An) (qi := qi) (qo := qo) (Tm := Tm) (Nw := Nw) (Kw := Kw) (ni := ni) (bc := bc) (cm := cm) (cn := cn) (qc := qc) (cd := cd) (ris := ris) (i0 := x0) (by omega) (by omega)) (cwV 1 C.2.2.2.2.1 gX6_sum_X6_isNone rfl rfl rfl (by decide +kernel) ⟨Nat.le_of_ble_eq_true rfl, Nat.le_of_ble_eq_true rfl⟩) [wMM g mm b1 b2 b3 b4 b5 b6 b7 b8 b9 b10 b11 b12 b13 b14 b15 b16 b17 kinds ni cm first second An An Tm Tm bc hds tgs qc qi qo qs cn vals Nw Nw Kw Kw cd] [0] [] [] (fun _ => [wMM g mm b1 b2 b3 b4 b5 b6 b7 b8 b9 b10 b11 b12 b13 b14 b15 b16 b17 kinds ni cm first second An An Tm Tm bc hds tgs qc qi qo qs cn vals Nw Nw Kw Kw 0]) (fun _ => wMM g mm b1 b2 b3 b4 b5 b6 b7 b8 b9 b10 b11 b12 b13 b14 b15 b16 b17 kinds ni cm first second An An Tm Tm bc hds tgs qc qi qo qs cn vals Nw Nw Kw Kw 0 ++ ([])) rfl rfl rfl (fun _ => rfl) (fun _ => rfl) (fun _ => rfl) (fun _ => rfl) rfl rfl rfl rfl rfl (Nat.le_of_ble_eq_true rfl) dX6_sum_2 ⟨by decide, by decide⟩ (fun r_2 _ h_1 => ?_)
  subst h_1
  refine v_ifz_eq C 10 dX6_sum_5 (by decide) (fun _ => ?_) (fun h => nomatch h) 
  refine v_lconst C (v := lN 0) dX6_sum_10 rfl ?_
  refine v_lstore_n C [(2, .long (lN (0))), (0, .ref (mm)), (1, .int (iI ((x0 : Nat) : Int)))] dX6_sum_11 rfl (by decide) rfl ?_
  refine v_iconst C (z := 0) dX6_sum_12 ?_
  refine v_istore C [(4, .int (iI (0))), (2, .long (lN (0))), (0, .ref (mm)), (1, .int (iI ((x0 : Nat) : Int)))] dX6_sum_13 (by decide) rfl ?_
  refine v_lv (lv' := [(0, .ref (mm)), (1, .int (iI ((x0 : Nat) : Int))), (2, .long ((jI (smF Tm vals cn x0 0)))), (4, .int (iI ((0 : Nat) : Int)))]) [2, 3, 1, 0] rfl ?_
  refine v_ws (ws' := wMM g mm b1 b2 b3 b4 b5 b6 b7 b8 b9 b10 b11 b12 b13 b14 b15 b16 b17 kinds ni cm first second An An Tm Tm bc hds tgs qc qi qo qs cn vals Nw Nw Kw Kw 0 ++ ([])) rfl ?_
  refine v_lp1 (X := Nat) (fun i => wMM g mm b1 b2 b3 b4 b5 b6 b7 b8 b9 b10 b11 b12 b13 b14 b15 b16 b17 kinds ni cm first second An An Tm Tm bc hds tgs qc qi qo qs cn vals Nw Nw Kw Kw 0 ++ ([])) (fun i => [(0, .ref (mm)), (1, .int (iI ((x0 : Nat) : Int))), (2, .long ((jI (smF Tm vals cn x0 i)))), (4, .int (iI ((i : Nat) : Int)))]) (fun i => ni - i) (fun i => i ≤ ni) ?_ (0) (Nat.zero_le _)
  intro i hJ15 ih15
  try dsimp only at hJ15 ⊢
  refine v_iload C dX6_sum_15 3 rfl ?_
  refine v_aload_n C dX6_sum_17 rfl 0 rfl ?_
  refine v_get C 0 (kf := 0) rfl rfl (by decide) inX6_sum_6 lkX6_sum_76 rfl rfl dX6_sum_18 ?_
  refine v_icmp_ge C 90 dX6_sum_21 (by decide) ⟨by omega, by omega⟩ ⟨by omega, by omega⟩ (fun c_3 => ?_) (fun c_3 => ?_)
  ·
    obtain rfl : ni = i := by omega
    refine v_lload_n C dX6_sum_90 rfl 2 rfl ?_
    exact (v_lret C hr hl () (by decide) (by decide) rfl rfl dX6_sum_91)
  ·
    have hS9 := htk x0 hx0 i (by omega)
    refine v_aload_n C dX6_sum_24 rfl 0 rfl ?_
    refine v_aload_n C dX6_sum_25 rfl 0 rfl ?_
    refine v_get C 0 (kf := 7) rfl rfl (by decide) inX6_sum_6 lkX6_sum_31 rfl rfl dX6_sum_26 ?_
    refine v_iload_n C dX6_sum_29 rfl 1 rfl ?_
    refine v_iload C dX6_sum_30 3 rfl ?_
    refine v_invSI C (As := [.int (iI ((x0 : Nat) : Int)), .int (iI ((i : Nat) : Int))]) (kX6_at l g  (r0 := x0) (i0 := i) ) (cwS 2 C.2.2.2.2.1 gX6_sum_X6_at rfl rfl rfl (by decide +kernel) ⟨Nat.le_of_ble_eq_true rfl, Nat.le_of_ble_eq_true rfl⟩) [wMM g mm b1 b2 b3 b4 b5 b6 b7 b8 b9 b10 b11 b12 b13 b14 b15 b16 b17 kinds ni cm first second An An Tm Tm bc hds tgs qc qi qo qs cn vals Nw Nw Kw Kw 0] [] [0] [.ref (b6), .ref (mm)] (fun _ => [wMM g mm b1 b2 b3 b4 b5 b6 b7 b8 b9 b10 b11 b12 b13 b14 b15 b16 b17 kinds ni cm first second An An Tm Tm bc hds tgs qc qi qo qs cn vals Nw Nw Kw Kw 0]) (fun _ => wMM g mm b1 b2 b3 b4 b5 b6 b7 b8 b9 b10 b11 b12 b13 b14 b15 b16 b17 kinds ni cm first second An An Tm Tm bc hds tgs qc qi qo qs cn vals Nw Nw Kw Kw 0 ++ ([])) rfl rfl rfl (fun _ => rfl) (fun _ => rfl) (fun _ => rfl) (fun _ => rfl) rfl rfl (Nat.le_of_ble_eq_true rfl) dX6_sum_32 ⟨by decide, by decide⟩ (fun r_5 _ h_4 => ?_)
    subst h_4
    refine v_lald C 6 (12 * x0 + i) rfl rfl (by omega) (by decide) dX6_sum_35 ?_
    refine v_aload_n C dX6_sum_36 rfl 0 rfl ?_
    refine v_get C 0 (kf := 8) rfl rfl (by decide) inX6_sum_6 lkX6_sum_34 rfl rfl dX6_sum_37 ?_
    refine v_iload_n C dX6_sum_40 rfl 1 rfl ?_
    refine v_iload C dX6_sum_41 3 rfl ?_
    refine v_invSI C (As := [.int (iI ((x0 : Nat) : Int)), .int (iI ((i : Nat) : Int))]) (kX6_at l g  (r0 := x0) (i0 := i) ) (cwS 2 C.2.2.2.2.1 gX6_sum_X6_at rfl rfl rfl (by decide +kernel) ⟨Nat.le_of_ble_eq_true rfl, Nat.le_of_ble_eq_true rfl⟩) [wMM g mm b1 b2 b3 b4 b5 b6 b7 b8 b9 b10 b11 b12 b13 b14 b15 b16 b17 kinds ni cm first second An An Tm Tm bc hds tgs qc qi qo qs cn vals Nw Nw Kw Kw 0] [] [0] [.ref (b7), .long (loM (Tm (12 * x0 + i))), .ref (mm)] (fun _ => [wMM g mm b1 b2 b3 b4 b5 b6 b7 b8 b9 b10 b11 b12 b13 b14 b15 b16 b17 kinds ni cm first second An An Tm Tm bc hds tgs qc qi qo qs cn vals Nw Nw Kw Kw 0]) (fun _ => wMM g mm b1 b2 b3 b4 b5 b6 b7 b8 b9 b10 b11 b12 b13 b14 b15 b16 b17 kinds ni cm first second An An Tm Tm bc hds tgs qc qi qo qs cn vals Nw Nw Kw Kw 0 ++ ([])) rfl rfl rfl (fun _ => rfl) (fun _ => rfl) (fun _ => rfl) (fun _ => rfl) rfl rfl (Nat.le_of_ble_eq_true rfl) dX6_sum_43 ⟨by decide, by decide⟩ (fun r_7 _ h_6 => ?_)
    subst h_6
    refine v_lald C 7 (12 * x0 + i) rfl rfl (by omega) (by decide) dX6_sum_46 ?_
    refine v_iconst C (z := 0) dX6_sum_47 ?_
    refine v_invVI C (As := [.long (loM (Tm (12 * x0 + i))), .long (hiM (Tm (12 * x0 + i))), .int (iI (0))]) (q0 := 0) (ci := 6) (kX6_sideOf l g (mm := mm) (b1 := b1) (b2 := b2) (b3 := b3) (b4 := b4) (b5 := b5) (b6 := b6) (b7 := b7) (b8 := b8) (b9 := b9) (b10 := b10) (b11 := b11) (b12 := b12) (b13 := b13) (b14 := b14) (b15 := b15) (b16 := b16) (b17 := b17) (kinds := kinds) (tgs := tgs) (first := first) (second := second) (vals := vals) (qs := qs) (hds := hds) (An := An) (qi := qi) (qo := qo) (Tm := Tm) (Nw := Nw) (Kw := Kw) (ni := ni) (bc := bc) (cm := cm) (cn := cn) (qc := qc) (cd := 0) (ris := ris) (S := Tm (12 * x0 + i)) (ix := 0) hpal hS9.2 (b31_lit _ rfl)) (cwV 3 C.2.2.2.2.1 gX6_sum_X6_sideOf rfl rfl rfl (by decide +kernel) ⟨Nat.le_of_ble_eq_true rfl, Nat.le_of_ble_eq_true rfl⟩) [wMM g mm b1 b2 b3 b4 b5 b6 b7 b8 b9 b10 b11 b12 b13 b14 b15 b16 b17 kinds ni cm first second An An Tm Tm bc hds tgs qc qi qo qs cn vals Nw Nw Kw Kw 0] [0] [] [] (fun _ => [wMM g mm b1 b2 b3 b4 b5 b6 b7 b8 b9 b10 b11 b12 b13 b14 b15 b16 b17 kinds ni cm first second An An Tm Tm bc hds tgs qc qi qo qs cn vals Nw Nw Kw Kw 0]) (fun _ => wMM g mm b1 b2 b3 b4 b5 b6 b7 b8 b9 b10 b11 b12 b13 b14 b15 b16 b17 kinds ni cm first second An An Tm Tm bc hds tgs qc qi qo qs cn vals Nw Nw Kw Kw 0 ++ ([])) rfl rfl rfl (fun _ => rfl) (fun _ => rfl) (fun _ => rfl) (fun _ => rfl) rfl rfl rfl rfl rfl (Nat.le_of_ble_eq_true rfl) dX6_sum_48 ⟨by decide, by decide⟩ (fun r_9 _ h_8 => ?_)
    subst h_8
    refine v_istore C [(5, .int (iI (sIx (fun j => ((Tm (12 * x0 + i))).testBit (ris j)) ris 0 cn))), (0, .ref (mm)), (1, .int (iI ((x0 : Nat) : Int))), (2, .long ((jI (smF Tm vals cn x0 i)))), (4, .int (iI ((i : Nat) : Int)))] dX6_sum_51 (by decide) rfl ?_
    refine v_lload_n C dX6_sum_53 rfl 3 rfl ?_
    refine v_aload_n C dX6_sum_54 rfl 1 rfl ?_
    refine v_iload_n C dX6_sum_55 rfl 2 rfl ?_
    refine v_iload C dX6_sum_56 4 rfl ?_
    refine v_invVI C (As := [.int (iI ((x0 : Nat) : Int)), .int (iI ((i : Nat) : Int))]) (q0 := 0) (ci := 6) (kX6_sidesIn l g (mm := mm) (b1 := b1) (b2 := b2) (b3 := b3) (b4 := b4) (b5 := b5) (b6 := b6) (b7 := b7) (b8 := b8) (b9 := b9) (b10 := b10) (b11 := b11) (b12 := b12) (b13 := b13) (b14 := b14) (b15 := b15) (b16 := b16) (b17 := b17) (kinds := kinds) (tgs := tgs) (first := first) (second := second) (vals := vals) (qs := qs) (hds := hds) (An := An) (qi := qi) (qo := qo) (Tm := Tm) (Nw := Nw) (Kw := Kw) (ni := ni) (bc := bc) (cm := cm) (cn := cn) (qc := qc) (cd := 0) (ris := ris) (c0 := x0) (i0 := i) (by omega) (by omega) (by omega) hS9.2) (cwV 2 C.2.2.2.2.1 gX6_sum_X6_sidesIn rfl rfl rfl (by decide +kernel) ⟨Nat.le_of_ble_eq_true rfl, Nat.le_of_ble_eq_true rfl⟩) [wMM g mm b1 b2 b3 b4 b5 b6 b7 b8 b9 b10 b11 b12 b13 b14 b15 b16 b17 kinds ni cm first second An An Tm Tm bc hds tgs qc qi qo qs cn vals Nw Nw Kw Kw 0] [0] [] [.long ((jI (smF Tm vals cn x0 i)))] (fun _ => [wMM g mm b1 b2 b3 b4 b5 b6 b7 b8 b9 b10 b11 b12 b13 b14 b15 b16 b17 kinds ni cm first second An An Tm Tm bc hds tgs qc qi qo qs cn vals Nw Nw Kw Kw 0]) (fun _ => wMM g mm b1 b2 b3 b4 b5 b6 b7 b8 b9 b10 b11 b12 b13 b14 b15 b16 b17 kinds ni cm first second An An Tm Tm bc hds tgs qc qi qo qs cn vals Nw Nw Kw Kw 0 ++ ([])) rfl rfl rfl (fun _ => rfl) (fun _ => rfl) (fun _ => rfl) (fun _ => rfl) rfl rfl rfl rfl rfl (Nat.le_of_ble_eq_true rfl) dX6_sum_58 ⟨by decide, by decide⟩ (fun r_11 _ h_10 => ?_)
    subst h_10
    refine v_iconst C (z := 1) dX6_sum_61 ?_
    refine v_icmp_ne C 81 dX6_sum_62 (by decide) (cnt31 _) (b31_lit _ rfl) (fun c_12 => ?_) (fun c_12 => ?_)
    ·
      refine v_lconst C (v := lN 0) dX6_sum_81 rfl ?_
      refine v_ladd C dX6_sum_82 ?_
      refine v_st (st' := [.long ((jI (smF Tm vals cn x0 (i + 1))))]) (congrArg (fun z => Value.long z :: []) (by rw [show lN 0 = jI 0 from rfl, jI_add, Int.add_zero, smF_f (fun x => by have := x.2; omega)])) ?_
      refine v_lstore_n C [(2, .long ((jI (smF Tm vals cn x0 (i + 1))))), (5, .int (iI (sIx (fun j => ((Tm (12 * x0 + i))).testBit (ris j)) ris 0 cn))), (0, .ref (mm)), (1, .int (iI ((x0 : Nat) : Int))), (4, .int (iI ((i : Nat) : Int)))] dX6_sum_83 rfl (by decide) rfl ?_
      refine v_iinc C [(4, .int (iI (((i : Nat) : Int) + 1))), (2, .long ((jI (smF Tm vals cn x0 (i + 1))))), (5, .int (iI (sIx (fun j => ((Tm (12 * x0 + i))).testBit (ris j)) ris 0 cn))), (0, .ref (mm)), (1, .int (iI ((x0 : Nat) : Int)))] dX6_sum_84 4 rfl (by decide) rfl ?_
      rw [show ((i : Nat) : Int) + 1 = ((i + 1 : Nat) : Int) from rfl]
      refine v_goto C 15 dX6_sum_87 (by decide) ?_
      refine v_lv (lv' := [(0, .ref (mm)), (1, .int (iI ((x0 : Nat) : Int))), (2, .long ((jI (smF Tm vals cn x0 (i + 1))))), (4, .int (iI ((i + 1 : Nat) : Int)))]) [3, 4, 1, 0] rfl ?_
      refine v_ws (ws' := wMM g mm b1 b2 b3 b4 b5 b6 b7 b8 b9 b10 b11 b12 b13 b14 b15 b16 b17 kinds ni cm first second An An Tm Tm bc hds tgs qc qi qo qs cn vals Nw Nw Kw Kw 0 ++ ([])) rfl ?_
      exact ih15 (i + 1) (by omega) (by omega)
    ·
      obtain ⟨k, hk, ek⟩ := cnt_one hS9.2 (by omega) hS9.1 (by omega)
      have es : sIx (fun j => (Tm (12 * x0 + i)).testBit (ris j)) ris (0) cn = ((k : Nat) : Int) := by rw [ek]; exact sIx_pow hpal hk
      have el : lone (Tm (12 * x0 + i)) vals cn = vals k := by rw [ek]; exact lone_pow (by omega) hk
      have ev := val_0 hpal hk
      have hvk := hpal.2.2.2.2.2.2.1 k
      refine v_lv (lv' := [(5, .int (iI ((k : Nat) : Int))), (0, .ref (mm)), (1, .int (iI ((x0 : Nat) : Int))), (2, .long ((jI (smF Tm vals cn x0 i)))), (4, .int (iI ((i : Nat) : Int)))]) [0, 1, 2, 3, 4] (by show _ = _; rw [← es]; rfl) ?_
      refine v_iload C dX6_sum_65 0 rfl ?_
      refine v_if_le C 81 dX6_sum_67 (by decide) ⟨by omega, by omega⟩ (fun c_13 => ?_) (fun c_13 => ?_)
      ·
        refine v_lconst C (v := lN 0) dX6_sum_81 rfl ?_
        refine v_ladd C dX6_sum_82 ?_
        refine v_st (st' := [.long ((jI (smF Tm vals cn x0 (i + 1))))]) (congrArg (fun z => Value.long z :: []) (by rw [show lN 0 = jI 0 from rfl, jI_add, Int.add_zero, smF_f (fun x => x.1 (by rw [el, ev]; omega))])) ?_
        refine v_lstore_n C [(2, .long ((jI (smF Tm vals cn x0 (i + 1))))), (5, .int (iI ((k : Nat) : Int))), (0, .ref (mm)), (1, .int (iI ((x0 : Nat) : Int))), (4, .int (iI ((i : Nat) : Int)))] dX6_sum_83 rfl (by decide) rfl ?_
        refine v_iinc C [(4, .int (iI (((i : Nat) : Int) + 1))), (2, .long ((jI (smF Tm vals cn x0 (i + 1))))), (5, .int (iI ((k : Nat) : Int))), (0, .ref (mm)), (1, .int (iI ((x0 : Nat) : Int)))] dX6_sum_84 4 rfl (by decide) rfl ?_
        rw [show ((i : Nat) : Int) + 1 = ((i + 1 : Nat) : Int) from rfl]
        refine v_goto C 15 dX6_sum_87 (by decide) ?_
        refine v_lv (lv' := [(0, .ref (mm)), (1, .int (iI ((x0 : Nat) : Int))), (2, .long ((jI (smF Tm vals cn x0 (i + 1))))), (4, .int (iI ((i + 1 : Nat) : Int)))]) [3, 4, 1, 0] rfl ?_
        refine v_ws (ws' := wMM g mm b1 b2 b3 b4 b5 b6 b7 b8 b9 b10 b11 b12 b13 b14 b15 b16 b17 kinds ni cm first second An An Tm Tm bc hds tgs qc qi qo qs cn vals Nw Nw Kw Kw 0 ++ ([])) rfl ?_
        exact ih15 (i + 1) (by omega) (by omega)
      ·
        refine v_aload_n C dX6_sum_70 rfl 1 rfl ?_
        refine v_get C 0 (kf := 17) rfl rfl (by decide) inX6_sum_6 lkX6_sum_58 rfl rfl dX6_sum_71 ?_
        refine v_iload C dX6_sum_74 0 rfl ?_
        refine v_iald C 13 (k) rfl rfl (by omega) (by decide) dX6_sum_76 ?_
        refine v_i2l C dX6_sum_77 (iI_l (b31_of hvk.1 hvk.2)) ?_
        refine v_goto C 82 dX6_sum_78 (by decide) ?_
        refine v_ladd C dX6_sum_82 ?_
        refine v_st (st' := [.long ((jI (smF Tm vals cn x0 (i + 1))))]) (congrArg (fun z => Value.long z :: []) (by rw [jI_add, ← el, smF_t (by rw [el, ev]; omega) (by omega)])) ?_
        refine v_lstore_n C [(2, .long ((jI (smF Tm vals cn x0 (i + 1))))), (5, .int (iI ((k : Nat) : Int))), (0, .ref (mm)), (1, .int (iI ((x0 : Nat) : Int))), (4, .int (iI ((i : Nat) : Int)))] dX6_sum_83 rfl (by decide) rfl ?_
        refine v_iinc C [(4, .int (iI (((i : Nat) : Int) + 1))), (2, .long ((jI (smF Tm vals cn x0 (i + 1))))), (5, .int (iI ((k : Nat) : Int))), (0, .ref (mm)), (1, .int (iI ((x0 : Nat) : Int)))] dX6_sum_84 4 rfl (by decide) rfl ?_
        rw [show ((i : Nat) : Int) + 1 = ((i + 1 : Nat) : Int) from rfl]
        refine v_goto C 15 dX6_sum_87 (by decide) ?_
        refine v_lv (lv' := [(0, .ref (mm)), (1, .int (iI ((x0 : Nat) : Int))), (2, .long ((jI (smF Tm vals cn x0 (i + 1))))), (4, .int (iI ((i + 1 : Nat) : Int)))]) [3, 4, 1, 0] rfl ?_
        refine v_ws (ws' := wMM g mm b1 b2 b3 b4 b5 b6 b7 b8 b9 b10 b11 b12 b13 b14 b15 b16 b17 kinds ni cm first second An An Tm Tm bc hds tgs qc qi qo qs cn vals Nw Nw Kw Kw 0 ++ ([])) rfl ?_
        exact ih15 (i + 1) (by omega) (by omega)
set_option maxHeartbeats 4000000 in
set_option maxRecDepth 100000 in
theorem kX6_sum_a (l : Launch) (g : vG) {mm b1 b2 b3 b4 b5 b6 b7 b8 b9 b10 b11 b12 b13 b14 b15 b16 b17 : Nat} {kinds tgs first second vals qs : Nat → Int} {hds An qi qo Tm Nw Kw ris : Nat → Nat} {ni bc cm cn qc cd : Nat} {x : Int} (hI : MI vals ris cn kinds tgs first second qs hds An qi qo Tm ni bc cm qc) (hx : b31 x) (hqx : ¬ (0 ≤ x ∧ x < ((cm : Nat) : Int)))  : mL l g yX6_sum wsX6_sum ({ frames := 3, cells := 0, slots := 0, locals := 64 }) [.ref (mm), .int (iI (x))] (wMM g mm b1 b2 b3 b4 b5 b6 b7 b8 b9 b10 b11 b12 b13 b14 b15 b16 b17 kinds ni cm first second An An Tm Tm bc hds tgs qc qi qo qs cn vals Nw Nw Kw Kw cd ++ ([])) (fun _ : Unit => wMM g mm b1 b2 b3 b4 b5 b6 b7 b8 b9 b10 b11 b12 b13 b14 b15 b16 b17 kinds ni cm first second An An Tm Tm bc hds tgs qc qi qo qs cn vals Nw Nw Kw Kw 1 ++ ([])) (fun _ _ => True) 0 0 := by
  refine mL_of (cc := cX6_sum) (maxL := 6) (ret := (some .long)) (own := RX6) (by decide) rfl rfl (Nat.le_of_ble_eq_true rfl) ?_
  intro p e s m args below meth c A C hr hl hin
  obtain ⟨hni, hbc1, hbc, hcm1, hcm, hcn1, hnm, hqc, hhd, htg, hf, hs, hfc, hsc, hAn, hTm, hao, hpal, hqb, hqi, htk, hkd⟩ := id hI
  have hx1 := hx.1
  have hx2 := hx.2
  refine v_aload_n C dX6_sum_0 rfl 0 rfl ?_
  refine v_iload_n C dX6_sum_1 rfl 1 rfl ?_
  refine v_invVI C (As := [.int (iI (x))]) (q0 := 0) (ci := 6) (kX6_isNone_out l g (mm := mm) (b1 := b1) (b2 := b2) (b3 := b3) (b4 := b4) (b5 := b5) (b6 := b6) (b7 := b7) (b8 := b8) (b9 := b9) (b10 := b10) (b11 := b11) (b12 := b12) (b13 := b13) (b14 := b14) (b15 := b15) (b16 := b16) (b17 := b17) (kinds := kinds) (tgs := tgs) (first := first) (second := second) (vals := vals) (qs := qs) (hds := hds) (An := An) (qi := qi) (qo := qo) (Tm := Tm) (Nw := Nw) (Kw := Kw) (ni := ni) (bc := bc) (cm := cm) (cn := cn) (qc := qc) (cd := cd) (ris := ris) (x := x) ⟨by omega, by omega⟩ (by omega) (by omega)) (cwV 1 C.2.2.2.2.1 gX6_sum_X6_isNone rfl rfl rfl (by decide +kernel) ⟨Nat.le_of_ble_eq_true rfl, Nat.le_of_ble_eq_true rfl⟩) [wMM g mm b1 b2 b3 b4 b5 b6 b7 b8 b9 b10 b11 b12 b13 b14 b15 b16 b17 kinds ni cm first second An An Tm Tm bc hds tgs qc qi qo qs cn vals Nw Nw Kw Kw cd] [0] [] [] (fun _ => [wMM g mm b1 b2 b3 b4 b5 b6 b7 b8 b9 b10 b11 b12 b13 b14 b15 b16 b17 kinds ni cm first second An An Tm Tm bc hds tgs qc qi qo qs cn vals Nw Nw Kw Kw 1]) (fun _ => wMM g mm b1 b2 b3 b4 b5 b6 b7 b8 b9 b10 b11 b12 b13 b14 b15 b16 b17 kinds ni cm first second An An Tm Tm bc hds tgs qc qi qo qs cn vals Nw Nw Kw Kw 1 ++ ([])) rfl rfl rfl (fun _ => rfl) (fun _ => rfl) (fun _ => rfl) (fun _ => rfl) rfl rfl rfl rfl rfl (Nat.le_of_ble_eq_true rfl) dX6_sum_2 ⟨by decide, by decide⟩ (fun r_2 _ h_1 => ?_)
  subst h_1
  refine v_ifz_eq C 10 dX6_sum_5 (by decide) (fun h => nomatch h) (fun _ => ?_)
  refine v_lconst C (v := lN 0) dX6_sum_8 rfl ?_
  exact (v_lret C hr hl () (by decide) (by decide) rfl trivial dX6_sum_9)
theorem inX6_conflictShare_6 : ∀ w ∈ u_ws RX6 TX6 23, w ∈ wsX6_conflictShare := by decide +kernel
theorem lkX6_conflictShare_76 : Cond.fieldLink RX6 76 "MergeAtelierModel" "items" "I" ∈ wsX6_conflictShare := by decide +kernel
set_option maxHeartbeats 4000000 in
set_option maxRecDepth 100000 in
theorem kX6_conflictShare_ok (l : Launch) (g : vG) {mm b1 b2 b3 b4 b5 b6 b7 b8 b9 b10 b11 b12 b13 b14 b15 b16 b17 : Nat} {kinds tgs first second vals qs : Nat → Int} {hds An qi qo Tm Nw Kw ris : Nat → Nat} {ni bc cm cn qc cd : Nat} {x0 : Nat} (hI : MI vals ris cn kinds tgs first second qs hds An qi qo Tm ni bc cm qc) (hx0 : x0 < cm) (hn : ¬ ni = 0) : mF l g yX6_conflictShare wsX6_conflictShare ({ frames := 4, cells := 0, slots := 0, locals := 95 }) [.ref (mm), .int (iI ((x0 : Nat) : Int))] (wMM g mm b1 b2 b3 b4 b5 b6 b7 b8 b9 b10 b11 b12 b13 b14 b15 b16 b17 kinds ni cm first second An An Tm Tm bc hds tgs qc qi qo qs cn vals Nw Nw Kw Kw cd ++ ([])) (fun _ : Unit => wMM g mm b1 b2 b3 b4 b5 b6 b7 b8 b9 b10 b11 b12 b13 b14 b15 b16 b17 kinds ni cm first second An An Tm Tm bc hds tgs qc qi qo qs cn vals Nw Nw Kw Kw 0 ++ ([])) (fun v _ => v = shr (fb_ct (fun i => decide (1 < cnt (Tm (12 * x0 + i)))) ni) ni) 0 0 := by
  refine mF_of (cc := cX6_conflictShare) (maxL := 2) (ret := (some .float)) (own := RX6) (by decide) rfl rfl (Nat.le_of_ble_eq_true rfl) ?_
  intro p e s m args below meth c A C hr hl hin
  obtain ⟨hni, hbc1, hbc, hcm1, hcm, hcn1, hnm, hqc, hhd, htg, hf, hs, hfc, hsc, hAn, hTm, hao, hpal, hqb, hqi, htk, hkd⟩ := id hI
  refine v_aload_n C dX6_conflictShare_0 rfl 0 rfl ?_
  refine v_iload_n C dX6_conflictShare_1 rfl 1 rfl ?_
  refine v_invVI C (As := [.int (iI ((x0 : Nat) : Int))]) (q0 := 0) (ci := 6) (kX6_isNone_in l g (mm := mm) (b1 := b1) (b2 := b2) (b3 := b3) (b4 := b4) (b5 := b5) (b6 := b6) (b7 := b7) (b8 := b8) (b9 := b9) (b10 := b10) (b11 := b11) (b12 := b12) (b13 := b13) (b14 := b14) (b15 := b15) (b16 := b16) (b17 := b17) (kinds := kinds) (tgs := tgs) (first := first) (second := second) (vals := vals) (qs := qs) (hds := hds) (An := An) (qi := qi) (qo := qo) (Tm := Tm) (Nw := Nw) (Kw := Kw) (ni := ni) (bc := bc) (cm := cm) (cn := cn) (qc := qc) (cd := cd) (ris := ris) (i0 := x0) (by omega) (by omega)) (cwV 1 C.2.2.2.2.1 gX6_conflictShare_X6_isNone rfl rfl rfl (by decide +kernel) ⟨Nat.le_of_ble_eq_true rfl, Nat.le_of_ble_eq_true rfl⟩) [wMM g mm b1 b2 b3 b4 b5 b6 b7 b8 b9 b10 b11 b12 b13 b14 b15 b16 b17 kinds ni cm first second An An Tm Tm bc hds tgs qc qi qo qs cn vals Nw Nw Kw Kw cd] [0] [] [] (fun _ => [wMM g mm b1 b2 b3 b4 b5 b6 b7 b8 b9 b10 b11 b12 b13 b14 b15 b16 b17 kinds ni cm first second An An Tm Tm bc hds tgs qc qi qo qs cn vals Nw Nw Kw Kw 0]) (fun _ => wMM g mm b1 b2 b3 b4 b5 b6 b7 b8 b9 b10 b11 b12 b13 b14 b15 b16 b17 kinds ni cm first second An An Tm Tm bc hds tgs qc qi qo qs cn vals Nw Nw Kw Kw 0 ++ ([])) rfl rfl rfl (fun _ => rfl) (fun _ => rfl) (fun _ => rfl) (fun _ => rfl) rfl rfl rfl rfl rfl (Nat.le_of_ble_eq_true rfl) dX6_conflictShare_2 ⟨by decide, by decide⟩ (fun r_2 _ h_1 => ?_)
  subst h_1
  refine v_ifz_ne C 27 dX6_conflictShare_5 (by decide) (fun h => nomatch h) (fun _ => ?_)
  refine v_aload_n C dX6_conflictShare_8 rfl 0 rfl ?_
  refine v_aload_n C dX6_conflictShare_9 rfl 0 rfl ?_
  refine v_get C 0 (kf := 0) rfl rfl (by decide) inX6_conflictShare_6 lkX6_conflictShare_76 rfl rfl dX6_conflictShare_10 ?_
  refine v_if_ne C 20 dX6_conflictShare_13 (by decide) ⟨by omega, by omega⟩ (fun c_3 => ?_) (fun c_3 => ?_)
  ·
    refine v_iconst C (z := 0) dX6_conflictShare_20 ?_
    refine v_invVI C (As := [.int (iI (0))]) (q0 := 0) (ci := 6) (kX6_fails_z l g (mm := mm) (b1 := b1) (b2 := b2) (b3 := b3) (b4 := b4) (b5 := b5) (b6 := b6) (b7 := b7) (b8 := b8) (b9 := b9) (b10 := b10) (b11 := b11) (b12 := b12) (b13 := b13) (b14 := b14) (b15 := b15) (b16 := b16) (b17 := b17) (kinds := kinds) (tgs := tgs) (first := first) (second := second) (vals := vals) (qs := qs) (hds := hds) (An := An) (qi := qi) (qo := qo) (Tm := Tm) (Nw := Nw) (Kw := Kw) (ni := ni) (bc := bc) (cm := cm) (cn := cn) (qc := qc) (cd := 0) (ris := ris)  ) (cwV 1 C.2.2.2.2.1 gX6_conflictShare_X6_fails rfl rfl rfl (by decide +kernel) ⟨Nat.le_of_ble_eq_true rfl, Nat.le_of_ble_eq_true rfl⟩) [wMM g mm b1 b2 b3 b4 b5 b6 b7 b8 b9 b10 b11 b12 b13 b14 b15 b16 b17 kinds ni cm first second An An Tm Tm bc hds tgs qc qi qo qs cn vals Nw Nw Kw Kw 0] [0] [] [] (fun _ => [wMM g mm b1 b2 b3 b4 b5 b6 b7 b8 b9 b10 b11 b12 b13 b14 b15 b16 b17 kinds ni cm first second An An Tm Tm bc hds tgs qc qi qo qs cn vals Nw Nw Kw Kw 0]) (fun _ => wMM g mm b1 b2 b3 b4 b5 b6 b7 b8 b9 b10 b11 b12 b13 b14 b15 b16 b17 kinds ni cm first second An An Tm Tm bc hds tgs qc qi qo qs cn vals Nw Nw Kw Kw 0 ++ ([])) rfl rfl rfl (fun _ => rfl) (fun _ => rfl) (fun _ => rfl) (fun _ => rfl) rfl rfl rfl rfl rfl (Nat.le_of_ble_eq_true rfl) dX6_conflictShare_21 ⟨by decide, by decide⟩ (fun r_5 _ h_4 => ?_)
    subst h_4
    refine v_ifz_eq C 31 dX6_conflictShare_24 (by decide) (fun _ => ?_) (fun h => nomatch h) 
    refine v_aload_n C dX6_conflictShare_31 rfl 0 rfl ?_
    refine v_iload_n C dX6_conflictShare_32 rfl 1 rfl ?_
    refine v_invVI C (As := [.int (iI ((x0 : Nat) : Int))]) (q0 := 0) (ci := 6) (kX6_conflictsIn l g (mm := mm) (b1 := b1) (b2 := b2) (b3 := b3) (b4 := b4) (b5 := b5) (b6 := b6) (b7 := b7) (b8 := b8) (b9 := b9) (b10 := b10) (b11 := b11) (b12 := b12) (b13 := b13) (b14 := b14) (b15 := b15) (b16 := b16) (b17 := b17) (kinds := kinds) (tgs := tgs) (first := first) (second := second) (vals := vals) (qs := qs) (hds := hds) (An := An) (qi := qi) (qo := qo) (Tm := Tm) (Nw := Nw) (Kw := Kw) (ni := ni) (bc := bc) (cm := cm) (cn := cn) (qc := qc) (cd := 0) (ris := ris) (c0 := x0) hI (by omega)) (cwV 1 C.2.2.2.2.1 gX6_conflictShare_X6_conflictsIn rfl rfl rfl (by decide +kernel) ⟨Nat.le_of_ble_eq_true rfl, Nat.le_of_ble_eq_true rfl⟩) [wMM g mm b1 b2 b3 b4 b5 b6 b7 b8 b9 b10 b11 b12 b13 b14 b15 b16 b17 kinds ni cm first second An An Tm Tm bc hds tgs qc qi qo qs cn vals Nw Nw Kw Kw 0] [0] [] [] (fun _ => [wMM g mm b1 b2 b3 b4 b5 b6 b7 b8 b9 b10 b11 b12 b13 b14 b15 b16 b17 kinds ni cm first second An An Tm Tm bc hds tgs qc qi qo qs cn vals Nw Nw Kw Kw 0]) (fun _ => wMM g mm b1 b2 b3 b4 b5 b6 b7 b8 b9 b10 b11 b12 b13 b14 b15 b16 b17 kinds ni cm first second An An Tm Tm bc hds tgs qc qi qo qs cn vals Nw Nw Kw Kw 0 ++ ([])) rfl rfl rfl (fun _ => rfl) (fun _ => rfl) (fun _ => rfl) (fun _ => rfl) rfl rfl rfl rfl rfl (Nat.le_of_ble_eq_true rfl) dX6_conflictShare_33 ⟨by decide, by decide⟩ (fun r_7 _ h_6 => ?_)
    subst h_6
    refine v_i2f C dX6_conflictShare_36 ?_
    refine v_aload_n C dX6_conflictShare_37 rfl 0 rfl ?_
    refine v_get C 0 (kf := 0) rfl rfl (by decide) inX6_conflictShare_6 lkX6_conflictShare_76 rfl rfl dX6_conflictShare_38 ?_
    refine v_i2f C dX6_conflictShare_41 ?_
    have hcc : fb_ct (fun i => decide (1 < cnt (Tm (12 * x0 + i)))) ni ≤ ni := fb_ct_le _ _
    refine v_fdiv C dX6_conflictShare_42 (shr_n (Nat.le_trans hcc hni) (by omega) hni) ?_
    exact (v_fret C hr hl () (by decide) (by decide) rfl rfl dX6_conflictShare_43)
  ·
    exfalso; omega
set_option maxHeartbeats 4000000 in
set_option maxRecDepth 100000 in
theorem kX6_conflictShare_a (l : Launch) (g : vG) {mm b1 b2 b3 b4 b5 b6 b7 b8 b9 b10 b11 b12 b13 b14 b15 b16 b17 : Nat} {kinds tgs first second vals qs : Nat → Int} {hds An qi qo Tm Nw Kw ris : Nat → Nat} {ni bc cm cn qc cd : Nat} {x : Int} (hI : MI vals ris cn kinds tgs first second qs hds An qi qo Tm ni bc cm qc) (hx : b31 x) (hqx : ¬ (0 ≤ x ∧ x < ((cm : Nat) : Int)))  : mF l g yX6_conflictShare wsX6_conflictShare ({ frames := 3, cells := 0, slots := 0, locals := 64 }) [.ref (mm), .int (iI (x))] (wMM g mm b1 b2 b3 b4 b5 b6 b7 b8 b9 b10 b11 b12 b13 b14 b15 b16 b17 kinds ni cm first second An An Tm Tm bc hds tgs qc qi qo qs cn vals Nw Nw Kw Kw cd ++ ([])) (fun _ : Unit => wMM g mm b1 b2 b3 b4 b5 b6 b7 b8 b9 b10 b11 b12 b13 b14 b15 b16 b17 kinds ni cm first second An An Tm Tm bc hds tgs qc qi qo qs cn vals Nw Nw Kw Kw 1 ++ ([])) (fun _ _ => True) 0 0 := by
  refine mF_of (cc := cX6_conflictShare) (maxL := 2) (ret := (some .float)) (own := RX6) (by decide) rfl rfl (Nat.le_of_ble_eq_true rfl) ?_
  intro p e s m args below meth c A C hr hl hin
  obtain ⟨hni, hbc1, hbc, hcm1, hcm, hcn1, hnm, hqc, hhd, htg, hf, hs, hfc, hsc, hAn, hTm, hao, hpal, hqb, hqi, htk, hkd⟩ := id hI
  have hx1 := hx.1
  have hx2 := hx.2
  refine v_aload_n C dX6_conflictShare_0 rfl 0 rfl ?_
  refine v_iload_n C dX6_conflictShare_1 rfl 1 rfl ?_
  refine v_invVI C (As := [.int (iI (x))]) (q0 := 0) (ci := 6) (kX6_isNone_out l g (mm := mm) (b1 := b1) (b2 := b2) (b3 := b3) (b4 := b4) (b5 := b5) (b6 := b6) (b7 := b7) (b8 := b8) (b9 := b9) (b10 := b10) (b11 := b11) (b12 := b12) (b13 := b13) (b14 := b14) (b15 := b15) (b16 := b16) (b17 := b17) (kinds := kinds) (tgs := tgs) (first := first) (second := second) (vals := vals) (qs := qs) (hds := hds) (An := An) (qi := qi) (qo := qo) (Tm := Tm) (Nw := Nw) (Kw := Kw) (ni := ni) (bc := bc) (cm := cm) (cn := cn) (qc := qc) (cd := cd) (ris := ris) (x := x) ⟨by omega, by omega⟩ (by omega) (by omega)) (cwV 1 C.2.2.2.2.1 gX6_conflictShare_X6_isNone rfl rfl rfl (by decide +kernel) ⟨Nat.le_of_ble_eq_true rfl, Nat.le_of_ble_eq_true rfl⟩) [wMM g mm b1 b2 b3 b4 b5 b6 b7 b8 b9 b10 b11 b12 b13 b14 b15 b16 b17 kinds ni cm first second An An Tm Tm bc hds tgs qc qi qo qs cn vals Nw Nw Kw Kw cd] [0] [] [] (fun _ => [wMM g mm b1 b2 b3 b4 b5 b6 b7 b8 b9 b10 b11 b12 b13 b14 b15 b16 b17 kinds ni cm first second An An Tm Tm bc hds tgs qc qi qo qs cn vals Nw Nw Kw Kw 1]) (fun _ => wMM g mm b1 b2 b3 b4 b5 b6 b7 b8 b9 b10 b11 b12 b13 b14 b15 b16 b17 kinds ni cm first second An An Tm Tm bc hds tgs qc qi qo qs cn vals Nw Nw Kw Kw 1 ++ ([])) rfl rfl rfl (fun _ => rfl) (fun _ => rfl) (fun _ => rfl) (fun _ => rfl) rfl rfl rfl rfl rfl (Nat.le_of_ble_eq_true rfl) dX6_conflictShare_2 ⟨by decide, by decide⟩ (fun r_2 _ h_1 => ?_)
  subst h_1
  refine v_ifz_ne C 27 dX6_conflictShare_5 (by decide) (fun _ => ?_) (fun h => nomatch h) 
  refine v_fconst0 C dX6_conflictShare_27 ?_
  refine v_goto C 43 dX6_conflictShare_28 (by decide) ?_
  exact (v_fret C hr hl () (by decide) (by decide) rfl trivial dX6_conflictShare_43)
set_option maxHeartbeats 4000000 in
set_option maxRecDepth 100000 in
theorem kX6_conflictShare_2 (l : Launch) (g : vG) {mm b1 b2 b3 b4 b5 b6 b7 b8 b9 b10 b11 b12 b13 b14 b15 b16 b17 : Nat} {kinds tgs first second vals qs : Nat → Int} {hds An qi qo Tm Nw Kw ris : Nat → Nat} {ni bc cm cn qc cd : Nat} {x0 : Nat} (hI : MI vals ris cn kinds tgs first second qs hds An qi qo Tm ni bc cm qc) (hx0 : x0 < cm) (hn : ni = 0) : mF l g yX6_conflictShare wsX6_conflictShare ({ frames := 3, cells := 0, slots := 0, locals := 64 }) [.ref (mm), .int (iI ((x0 : Nat) : Int))] (wMM g mm b1 b2 b3 b4 b5 b6 b7 b8 b9 b10 b11 b12 b13 b14 b15 b16 b17 kinds ni cm first second An An Tm Tm bc hds tgs qc qi qo qs cn vals Nw Nw Kw Kw cd ++ ([])) (fun _ : Unit => wMM g mm b1 b2 b3 b4 b5 b6 b7 b8 b9 b10 b11 b12 b13 b14 b15 b16 b17 kinds ni cm first second An An Tm Tm bc hds tgs qc qi qo qs cn vals Nw Nw Kw Kw 2 ++ ([])) (fun _ _ => True) 0 0 := by
  refine mF_of (cc := cX6_conflictShare) (maxL := 2) (ret := (some .float)) (own := RX6) (by decide) rfl rfl (Nat.le_of_ble_eq_true rfl) ?_
  intro p e s m args below meth c A C hr hl hin
  obtain ⟨hni, hbc1, hbc, hcm1, hcm, hcn1, hnm, hqc, hhd, htg, hf, hs, hfc, hsc, hAn, hTm, hao, hpal, hqb, hqi, htk, hkd⟩ := id hI
  refine v_aload_n C dX6_conflictShare_0 rfl 0 rfl ?_
  refine v_iload_n C dX6_conflictShare_1 rfl 1 rfl ?_
  refine v_invVI C (As := [.int (iI ((x0 : Nat) : Int))]) (q0 := 0) (ci := 6) (kX6_isNone_in l g (mm := mm) (b1 := b1) (b2 := b2) (b3 := b3) (b4 := b4) (b5 := b5) (b6 := b6) (b7 := b7) (b8 := b8) (b9 := b9) (b10 := b10) (b11 := b11) (b12 := b12) (b13 := b13) (b14 := b14) (b15 := b15) (b16 := b16) (b17 := b17) (kinds := kinds) (tgs := tgs) (first := first) (second := second) (vals := vals) (qs := qs) (hds := hds) (An := An) (qi := qi) (qo := qo) (Tm := Tm) (Nw := Nw) (Kw := Kw) (ni := ni) (bc := bc) (cm := cm) (cn := cn) (qc := qc) (cd := cd) (ris := ris) (i0 := x0) (by omega) (by omega)) (cwV 1 C.2.2.2.2.1 gX6_conflictShare_X6_isNone rfl rfl rfl (by decide +kernel) ⟨Nat.le_of_ble_eq_true rfl, Nat.le_of_ble_eq_true rfl⟩) [wMM g mm b1 b2 b3 b4 b5 b6 b7 b8 b9 b10 b11 b12 b13 b14 b15 b16 b17 kinds ni cm first second An An Tm Tm bc hds tgs qc qi qo qs cn vals Nw Nw Kw Kw cd] [0] [] [] (fun _ => [wMM g mm b1 b2 b3 b4 b5 b6 b7 b8 b9 b10 b11 b12 b13 b14 b15 b16 b17 kinds ni cm first second An An Tm Tm bc hds tgs qc qi qo qs cn vals Nw Nw Kw Kw 0]) (fun _ => wMM g mm b1 b2 b3 b4 b5 b6 b7 b8 b9 b10 b11 b12 b13 b14 b15 b16 b17 kinds ni cm first second An An Tm Tm bc hds tgs qc qi qo qs cn vals Nw Nw Kw Kw 0 ++ ([])) rfl rfl rfl (fun _ => rfl) (fun _ => rfl) (fun _ => rfl) (fun _ => rfl) rfl rfl rfl rfl rfl (Nat.le_of_ble_eq_true rfl) dX6_conflictShare_2 ⟨by decide, by decide⟩ (fun r_2 _ h_1 => ?_)
  subst h_1
  refine v_ifz_ne C 27 dX6_conflictShare_5 (by decide) (fun h => nomatch h) (fun _ => ?_)
  refine v_aload_n C dX6_conflictShare_8 rfl 0 rfl ?_
  refine v_aload_n C dX6_conflictShare_9 rfl 0 rfl ?_
  refine v_get C 0 (kf := 0) rfl rfl (by decide) inX6_conflictShare_6 lkX6_conflictShare_76 rfl rfl dX6_conflictShare_10 ?_
  refine v_if_ne C 20 dX6_conflictShare_13 (by decide) ⟨by omega, by omega⟩ (fun c_3 => ?_) (fun c_3 => ?_)
  ·
    exfalso; omega
  ·
    refine v_iconst C (z := 2) dX6_conflictShare_16 ?_
    refine v_goto C 21 dX6_conflictShare_17 (by decide) ?_
    refine v_invVI C (As := [.int (iI (2))]) (q0 := 0) (ci := 6) (kX6_fails_p l g (mm := mm) (b1 := b1) (b2 := b2) (b3 := b3) (b4 := b4) (b5 := b5) (b6 := b6) (b7 := b7) (b8 := b8) (b9 := b9) (b10 := b10) (b11 := b11) (b12 := b12) (b13 := b13) (b14 := b14) (b15 := b15) (b16 := b16) (b17 := b17) (kinds := kinds) (tgs := tgs) (first := first) (second := second) (vals := vals) (qs := qs) (hds := hds) (An := An) (qi := qi) (qo := qo) (Tm := Tm) (Nw := Nw) (Kw := Kw) (ni := ni) (bc := bc) (cm := cm) (cn := cn) (qc := qc) (cd := 0) (ris := ris) (q := 2) (by decide)) (cwV 1 C.2.2.2.2.1 gX6_conflictShare_X6_fails rfl rfl rfl (by decide +kernel) ⟨Nat.le_of_ble_eq_true rfl, Nat.le_of_ble_eq_true rfl⟩) [wMM g mm b1 b2 b3 b4 b5 b6 b7 b8 b9 b10 b11 b12 b13 b14 b15 b16 b17 kinds ni cm first second An An Tm Tm bc hds tgs qc qi qo qs cn vals Nw Nw Kw Kw 0] [0] [] [] (fun _ => [wMM g mm b1 b2 b3 b4 b5 b6 b7 b8 b9 b10 b11 b12 b13 b14 b15 b16 b17 kinds ni cm first second An An Tm Tm bc hds tgs qc qi qo qs cn vals Nw Nw Kw Kw 2]) (fun _ => wMM g mm b1 b2 b3 b4 b5 b6 b7 b8 b9 b10 b11 b12 b13 b14 b15 b16 b17 kinds ni cm first second An An Tm Tm bc hds tgs qc qi qo qs cn vals Nw Nw Kw Kw 2 ++ ([])) rfl rfl rfl (fun _ => rfl) (fun _ => rfl) (fun _ => rfl) (fun _ => rfl) rfl rfl rfl rfl rfl (Nat.le_of_ble_eq_true rfl) dX6_conflictShare_21 ⟨by decide, by decide⟩ (fun r_5 _ h_4 => ?_)
    subst h_4
    refine v_ifz_eq C 31 dX6_conflictShare_24 (by decide) (fun h => nomatch h) (fun _ => ?_)
    refine v_fconst0 C dX6_conflictShare_27 ?_
    refine v_goto C 43 dX6_conflictShare_28 (by decide) ?_
    exact (v_fret C hr hl () (by decide) (by decide) rfl trivial dX6_conflictShare_43)
