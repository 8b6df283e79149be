theorem inX6_parentsOf_6 : ∀ w ∈ u_ws RX6 TX6 23, w ∈ wsX6_parentsOf := by decide +kernel
theorem lkX6_parentsOf_17 : Cond.fieldLink RX6 17 "MergeAtelierModel" "firsts" "[I" ∈ wsX6_parentsOf := by decide +kernel
theorem lkX6_parentsOf_21 : Cond.fieldLink RX6 21 "MergeAtelierModel" "seconds" "[I" ∈ wsX6_parentsOf := by decide +kernel
set_option maxHeartbeats 4000000 in
set_option maxRecDepth 100000 in
theorem kX6_parentsOf (l : Launch) (g : vG) {mm b1 b2 b3 b4 b5 b6 b7 b8 b9 b10 b11 b12 b13 b14 b15 b16 b17 : Nat} {kinds tgs first second vals qs : Nat → Int} {hds An qi qo Tm Nw Kw ris : Nat → Nat} {ni bc cm cn qc cd : Nat} {c0 : Nat} (hc0 : c0 < 100) (hf : ∀ k, -1 ≤ first k ∧ first k < 100) (hs : ∀ k, -1 ≤ second k ∧ second k < 100) : mI l g yX6_parentsOf wsX6_parentsOf ({ frames := 0, cells := 0, slots := 0, locals := 0 }) [.ref (mm), .int (iI ((c0 : Nat) : Int))] (wMM g mm b1 b2 b3 b4 b5 b6 b7 b8 b9 b10 b11 b12 b13 b14 b15 b16 b17 kinds ni cm first second An An Tm Tm bc hds tgs qc qi qo qs cn vals Nw Nw Kw Kw cd ++ ([])) (fun _ : Unit => wMM g mm b1 b2 b3 b4 b5 b6 b7 b8 b9 b10 b11 b12 b13 b14 b15 b16 b17 kinds ni cm first second An An Tm Tm bc hds tgs qc qi qo qs cn vals Nw Nw Kw Kw cd ++ ([])) (fun v _ => v = iI ((pcn (first c0) (second c0) : Nat) : Int)) 0 0 := by
  refine mI_of (cc := cX6_parentsOf) (maxL := 2) (ret := (some .int)) (own := RX6) (by decide) rfl rfl (Nat.le_of_ble_eq_true rfl) ?_
  intro p e s m args below meth c A C hr hl hin
  have hf0 := hf c0
  have hs0 := hs c0
  refine v_aload_n C dX6_parentsOf_0 rfl 0 rfl ?_
  refine v_get C 0 (kf := 3) rfl rfl (by decide) inX6_parentsOf_6 lkX6_parentsOf_17 rfl rfl dX6_parentsOf_1 ?_
  refine v_iload_n C dX6_parentsOf_4 rfl 1 rfl ?_
  refine v_iald C 2 (c0) rfl rfl (by omega) (by decide) dX6_parentsOf_5 ?_
  refine v_if_ge C 13 dX6_parentsOf_6 (by decide) ⟨by omega, by omega⟩ (fun c_1 => ?_) (fun c_1 => ?_)
  ·
    refine v_aload_n C dX6_parentsOf_13 rfl 0 rfl ?_
    refine v_get C 0 (kf := 4) rfl rfl (by decide) inX6_parentsOf_6 lkX6_parentsOf_21 rfl rfl dX6_parentsOf_14 ?_
    refine v_iload_n C dX6_parentsOf_17 rfl 1 rfl ?_
    refine v_iald C 3 (c0) rfl rfl (by omega) (by decide) dX6_parentsOf_18 ?_
    refine v_if_ge C 26 dX6_parentsOf_19 (by decide) ⟨by omega, by omega⟩ (fun c_2 => ?_) (fun c_2 => ?_)
    ·
      refine v_iconst C (z := 2) dX6_parentsOf_26 ?_
      exact (v_iret C hr hl () (by decide) (by decide) rfl (congrArg (fun z : Nat => iI (z : Int)) (show _ = pcn _ _ by unfold pcn; rw [if_neg (by omega), if_neg (by omega)])) dX6_parentsOf_27)
    ·
      refine v_iconst C (z := 1) dX6_parentsOf_22 ?_
      refine v_goto C 27 dX6_parentsOf_23 (by decide) ?_
      exact (v_iret C hr hl () (by decide) (by decide) rfl (congrArg (fun z : Nat => iI (z : Int)) (show _ = pcn _ _ by unfold pcn; rw [if_neg (by omega), if_pos (by omega)])) dX6_parentsOf_27)
  ·
    refine v_iconst C (z := 0) dX6_parentsOf_9 ?_
    refine v_goto C 27 dX6_parentsOf_10 (by decide) ?_
    exact (v_iret C hr hl () (by decide) (by decide) rfl (congrArg (fun z : Nat => iI (z : Int)) (show _ = pcn _ _ by unfold pcn; rw [if_pos (by omega)])) dX6_parentsOf_27)
theorem fsp_a {T : Nat → Nat} {first second : Nat → Int} {i j k : Nat} (e : first j = (k : Int)) (h : T (12 * j + i) = T (12 * k + i)) : fsp T first second i j = (k : Int) := by
  unfold fsp
  rw [if_pos ⟨by omega, by rw [e]; exact h⟩, e]
theorem fsp_b {T : Nat → Nat} {first second : Nat → Int} {i j k1 k : Nat} (e1 : first j = (k1 : Int)) (h : ¬ T (12 * j + i) = T (12 * k1 + i)) (e : second j = (k : Int)) (h2 : T (12 * j + i) = T (12 * k + i)) : fsp T first second i j = (k : Int) := by
  unfold fsp
  rw [if_neg (fun x => h (by have q := x.2; rw [e1] at q; exact q)), if_pos ⟨by omega, by rw [e]; exact h2⟩, e]
theorem fsp_n0 {T : Nat → Nat} {first second : Nat → Int} {i j : Nat} (e1 : first j = -1) (e2 : second j = -1) : fsp T first second i j = -1 := by
  unfold fsp
  rw [if_neg (fun x => x.1 e1), if_neg (fun x => x.1 e2)]
theorem fsp_n1 {T : Nat → Nat} {first second : Nat → Int} {i j k1 : Nat} (e1 : first j = (k1 : Int)) (h : ¬ T (12 * j + i) = T (12 * k1 + i)) (e2 : second j = -1) : fsp T first second i j = -1 := by
  unfold fsp
  rw [if_neg (fun x => h (by have q := x.2; rw [e1] at q; exact q)), if_neg (fun x => x.1 e2)]
theorem fsp_n2 {T : Nat → Nat} {first second : Nat → Int} {i j k1 k : Nat} (e1 : first j = (k1 : Int)) (h : ¬ T (12 * j + i) = T (12 * k1 + i)) (e : second j = (k : Int)) (h2 : ¬ T (12 * j + i) = T (12 * k + i)) : fsp T first second i j = -1 := by
  unfold fsp
  rw [if_neg (fun x => h (by have q := x.2; rw [e1] at q; exact q)), if_neg (fun x => h2 (by have q := x.2; rw [e] at q; exact q))]
theorem qst_open {vals : Nat → Int} {cn : Nat} {sh : Int} {a b : Nat} (h : 1 < cnt a ∨ 1 < cnt b) : ¬ qst vals cn sh a b = 1 := by
  unfold qst
  rw [if_pos h]
  decide
theorem qst_p {vals : Nat → Int} {ris : Nat → Nat} {cn : Nat} {sh : Int} {a b : Nat} (h : PalOK vals ris cn) (ha : a < cn) (hb : b < cn) : qst vals cn sh (2 ^ a) (2 ^ b) = if a = 0 ∨ b = 0 then (if a = b then 0 else 1) else if vals a - vals b = sh then 0 else 1 := by
  have hc := h.1.2
  unfold qst
  rw [cnt_pow a (by omega), cnt_pow b (by omega), if_neg (by omega), lone_pow (by omega) ha, lone_pow (by omega) hb]
  simp only [val_0 h ha, val_0 h hb]
  by_cases e : a = b
  · subst e
    rw [if_pos rfl, if_pos rfl]
  · rw [if_neg e, if_neg (fun x => e (val_inj h ha hb x))]
theorem inX6_blameOf_6 : ∀ w ∈ u_ws RX6 TX6 23, w ∈ wsX6_blameOf := by decide +kernel
theorem lkX6_blameOf_17 : Cond.fieldLink RX6 17 "MergeAtelierModel" "firsts" "[I" ∈ wsX6_blameOf := by decide +kernel
theorem lkX6_blameOf_21 : Cond.fieldLink RX6 21 "MergeAtelierModel" "seconds" "[I" ∈ wsX6_blameOf := by decide +kernel
set_option maxHeartbeats 4000000 in
set_option maxRecDepth 100000 in
theorem kX6_blameOf (l : Launch) (g : vG) {mm b1 b2 b3 b4 b5 b6 b7 b8 b9 b10 b11 b12 b13 b14 b15 b16 b17 : Nat} {kinds tgs first second vals qs : Nat → Int} {hds An qi qo Tm Nw Kw ris : Nat → Nat} {ni bc cm cn qc cd : Nat} {c0 i0 : Nat} (hI : MI vals ris cn kinds tgs first second qs hds An qi qo Tm ni bc cm qc) (hc0 : c0 < cm) (hi0 : i0 < ni) : mI l g yX6_blameOf wsX6_blameOf ({ frames := 2, cells := 0, slots := 0, locals := 44 }) [.ref (mm), .int (iI ((c0 : Nat) : Int)), .int (iI ((i0 : Nat) : Int))] (wMM g mm b1 b2 b3 b4 b5 b6 b7 b8 b9 b10 b11 b12 b13 b14 b15 b16 b17 kinds ni cm first second An An Tm Tm bc hds tgs qc qi qo qs cn vals Nw Nw Kw Kw cd ++ ([])) (fun _ : Unit => wMM g mm b1 b2 b3 b4 b5 b6 b7 b8 b9 b10 b11 b12 b13 b14 b15 b16 b17 kinds ni cm first second An An Tm Tm bc hds tgs qc qi qo qs cn vals Nw Nw Kw Kw cd ++ ([])) (fun v _ => v = iI ((blm Tm first second i0 100 c0 : Nat) : Int)) 0 0 := by
  refine mI_of (cc := cX6_blameOf) (maxL := 4) (ret := (some .int)) (own := RX6) (by decide) rfl rfl (Nat.le_of_ble_eq_true rfl) ?_
  intro p e s m args below meth c A C hr hl hin
  obtain ⟨hni, hbc1, hbc, hcm1, hcm, hcn1, hnm, hqc, hhd, htg, hf, hs, hfc, hsc, hAn, hTm, hao, hpal, hqb, hqi, htk, hkd⟩ := id hI
  refine v_iload_n C dX6_blameOf_0 rfl 1 rfl ?_
  refine v_istore_n C [(3, .int (iI ((c0 : Nat) : Int))), (0, .ref (mm)), (1, .int (iI ((c0 : Nat) : Int))), (2, .int (iI ((i0 : Nat) : Int)))] dX6_blameOf_1 rfl (by decide) rfl ?_
  refine v_lv (lv' := [(0, .ref (mm)), (1, .int (iI ((c0 : Nat) : Int))), (2, .int (iI ((i0 : Nat) : Int))), (3, .int (iI ((c0 : Nat) : Int)))]) [1, 2, 3, 0] rfl ?_
  refine v_lp1 (X := Nat × Nat) (fun x => wMM g mm b1 b2 b3 b4 b5 b6 b7 b8 b9 b10 b11 b12 b13 b14 b15 b16 b17 kinds ni cm first second An An Tm Tm bc hds tgs qc qi qo qs cn vals Nw Nw Kw Kw cd ++ ([])) (fun x => [(0, .ref (mm)), (1, .int (iI ((c0 : Nat) : Int))), (2, .int (iI ((i0 : Nat) : Int))), (3, .int (iI ((x.1 : Nat) : Int)))]) (fun x => x.1) (fun x => x.1 + x.2 ≤ c0 ∧ blm Tm first second i0 100 c0 = blm Tm first second i0 (100 - x.2) x.1) ?_ ((c0, 0)) ⟨Nat.le_refl _, rfl⟩
  intro x hJ2 ih2
  try dsimp only at hJ2 ⊢
  have hx9 := hJ2.1
  have hf9 := hf x.1
  have hs9 := hs x.1
  have hfc9 := hfc x.1 (by omega)
  have hsc9 := hsc x.1 (by omega)
  refine v_aload_n C dX6_blameOf_2 rfl 0 rfl ?_
  refine v_get C 0 (kf := 3) rfl rfl (by decide) inX6_blameOf_6 lkX6_blameOf_17 rfl rfl dX6_blameOf_3 ?_
  refine v_iload_n C dX6_blameOf_6 rfl 3 rfl ?_
  refine v_iald C 2 (x.1) rfl rfl (by omega) (by decide) dX6_blameOf_7 ?_
  refine v_if_lt C 72 dX6_blameOf_8 (by decide) ⟨by omega, by omega⟩ (fun c_1 => ?_) (fun c_1 => ?_)
  ·
    refine v_iload_n C dX6_blameOf_72 rfl 3 rfl ?_
    exact (v_iret C hr hl () (by decide) (by decide) rfl (congrArg (fun z : Nat => iI (z : Int)) (by rw [hJ2.2, bl_e (by omega) (fsp_n0 (by omega) (by omega))])) dX6_blameOf_73)
  ·
    obtain ⟨k, e1⟩ : ∃ k : Nat, first x.1 = (k : Int) := ⟨(first x.1).toNat, by omega⟩
    have hk : k < x.1 := by omega
    refine v_aload_n C dX6_blameOf_11 rfl 0 rfl ?_
    refine v_iload_n C dX6_blameOf_12 rfl 3 rfl ?_
    refine v_aload_n C dX6_blameOf_13 rfl 0 rfl ?_
    refine v_get C 0 (kf := 3) rfl rfl (by decide) inX6_blameOf_6 lkX6_blameOf_17 rfl rfl dX6_blameOf_14 ?_
    refine v_iload_n C dX6_blameOf_17 rfl 3 rfl ?_
    refine v_iald C 2 (x.1) rfl rfl (by omega) (by decide) dX6_blameOf_18 ?_
    rw [e1]
    refine v_iload_n C dX6_blameOf_19 rfl 2 rfl ?_
    refine v_invVI C (As := [.int (iI ((x.1 : Nat) : Int)), .int (iI ((k : Nat) : Int)), .int (iI ((i0 : Nat) : Int))]) (q0 := 0) (ci := 6) (kX6_isSame l g (mm := mm) (b1 := b1) (b2 := b2) (b3 := b3) (b4 := b4) (b5 := b5) (b6 := b6) (b7 := b7) (b8 := b8) (b9 := b9) (b10 := b10) (b11 := b11) (b12 := b12) (b13 := b13) (b14 := b14) (b15 := b15) (b16 := b16) (b17 := b17) (kinds := kinds) (tgs := tgs) (first := first) (second := second) (vals := vals) (qs := qs) (hds := hds) (An := An) (qi := qi) (qo := qo) (Tm := Tm) (Nw := Nw) (Kw := Kw) (ni := ni) (bc := bc) (cm := cm) (cn := cn) (qc := qc) (cd := cd) (ris := ris) (c0 := x.1) (d0 := k) (i0 := i0) (by omega) (by omega) (by omega) hTm) (cwV 3 C.2.2.2.2.1 gX6_blameOf_X6_isSame rfl rfl rfl (by decide +kernel) ⟨Nat.le_of_ble_eq_true rfl, Nat.le_of_ble_eq_true rfl⟩) [wMM g mm b1 b2 b3 b4 b5 b6 b7 b8 b9 b10 b11 b12 b13 b14 b15 b16 b17 kinds ni cm first second An An Tm Tm bc hds tgs qc qi qo qs cn vals Nw Nw Kw Kw cd] [0] [] [] (fun _ => [wMM g mm b1 b2 b3 b4 b5 b6 b7 b8 b9 b10 b11 b12 b13 b14 b15 b16 b17 kinds ni cm first second An An Tm Tm bc hds tgs qc qi qo qs cn vals Nw Nw Kw Kw cd]) (fun _ => wMM g mm b1 b2 b3 b4 b5 b6 b7 b8 b9 b10 b11 b12 b13 b14 b15 b16 b17 kinds ni cm first second An An Tm Tm bc hds tgs qc qi qo qs cn vals Nw Nw Kw Kw cd ++ ([])) rfl rfl rfl (fun _ => rfl) (fun _ => rfl) (fun _ => rfl) (fun _ => rfl) rfl rfl rfl rfl rfl (Nat.le_of_ble_eq_true rfl) dX6_blameOf_20 ⟨by decide, by decide⟩ (fun r_3 _ h_2 => ?_)
    subst h_2
    refine v_ifz_eq C 36 dX6_blameOf_23 (by decide) (fun c_4 => ?_) (fun c_4 => ?_)
    ·
      refine v_aload_n C dX6_blameOf_36 rfl 0 rfl ?_
      refine v_get C 0 (kf := 4) rfl rfl (by decide) inX6_blameOf_6 lkX6_blameOf_21 rfl rfl dX6_blameOf_37 ?_
      refine v_iload_n C dX6_blameOf_40 rfl 3 rfl ?_
      refine v_iald C 3 (x.1) rfl rfl (by omega) (by decide) dX6_blameOf_41 ?_
      refine v_if_lt C 70 dX6_blameOf_42 (by decide) ⟨by omega, by omega⟩ (fun c_5 => ?_) (fun c_5 => ?_)
      ·
        refine v_iload_n C dX6_blameOf_70 rfl 3 rfl ?_
        exact (v_iret C hr hl () (by decide) (by decide) rfl (congrArg (fun z : Nat => iI (z : Int)) (by rw [hJ2.2, bl_e (by omega) (fsp_n1 e1 (of_decide_eq_false c_4) (by omega))])) dX6_blameOf_71)
      ·
        obtain ⟨k, e2⟩ : ∃ k : Nat, second x.1 = (k : Int) := ⟨(second x.1).toNat, by omega⟩
        have hk : k < x.1 := by omega
        refine v_aload_n C dX6_blameOf_45 rfl 0 rfl ?_
        refine v_iload_n C dX6_blameOf_46 rfl 3 rfl ?_
        refine v_aload_n C dX6_blameOf_47 rfl 0 rfl ?_
        refine v_get C 0 (kf := 4) rfl rfl (by decide) inX6_blameOf_6 lkX6_blameOf_21 rfl rfl dX6_blameOf_48 ?_
        refine v_iload_n C dX6_blameOf_51 rfl 3 rfl ?_
        refine v_iald C 3 (x.1) rfl rfl (by omega) (by decide) dX6_blameOf_52 ?_
        rw [e2]
        refine v_iload_n C dX6_blameOf_53 rfl 2 rfl ?_
        refine v_invVI C (As := [.int (iI ((x.1 : Nat) : Int)), .int (iI ((k : Nat) : Int)), .int (iI ((i0 : Nat) : Int))]) (q0 := 0) (ci := 6) (kX6_isSame l g (mm := mm) (b1 := b1) (b2 := b2) (b3 := b3) (b4 := b4) (b5 := b5) (b6 := b6) (b7 := b7) (b8 := b8) (b9 := b9) (b10 := b10) (b11 := b11) (b12 := b12) (b13 := b13) (b14 := b14) (b15 := b15) (b16 := b16) (b17 := b17) (kinds := kinds) (tgs := tgs) (first := first) (second := second) (vals := vals) (qs := qs) (hds := hds) (An := An) (qi := qi) (qo := qo) (Tm := Tm) (Nw := Nw) (Kw := Kw) (ni := ni) (bc := bc) (cm := cm) (cn := cn) (qc := qc) (cd := cd) (ris := ris) (c0 := x.1) (d0 := k) (i0 := i0) (by omega) (by omega) (by omega) hTm) (cwV 3 C.2.2.2.2.1 gX6_blameOf_X6_isSame rfl rfl rfl (by decide +kernel) ⟨Nat.le_of_ble_eq_true rfl, Nat.le_of_ble_eq_true rfl⟩) [wMM g mm b1 b2 b3 b4 b5 b6 b7 b8 b9 b10 b11 b12 b13 b14 b15 b16 b17 kinds ni cm first second An An Tm Tm bc hds tgs qc qi qo qs cn vals Nw Nw Kw Kw cd] [0] [] [] (fun _ => [wMM g mm b1 b2 b3 b4 b5 b6 b7 b8 b9 b10 b11 b12 b13 b14 b15 b16 b17 kinds ni cm first second An An Tm Tm bc hds tgs qc qi qo qs cn vals Nw Nw Kw Kw cd]) (fun _ => wMM g mm b1 b2 b3 b4 b5 b6 b7 b8 b9 b10 b11 b12 b13 b14 b15 b16 b17 kinds ni cm first second An An Tm Tm bc hds tgs qc qi qo qs cn vals Nw Nw Kw Kw cd ++ ([])) rfl rfl rfl (fun _ => rfl) (fun _ => rfl) (fun _ => rfl) (fun _ => rfl) rfl rfl rfl rfl rfl (Nat.le_of_ble_eq_true rfl) dX6_blameOf_54 ⟨by decide, by decide⟩ (fun r_7 _ h_6 => ?_)
        subst h_6
        refine v_ifz_eq C 70 dX6_blameOf_57 (by decide) (fun c_8 => ?_) (fun c_8 => ?_)
        ·
          refine v_iload_n C dX6_blameOf_70 rfl 3 rfl ?_
          exact (v_iret C hr hl () (by decide) (by decide) rfl (congrArg (fun z : Nat => iI (z : Int)) (by rw [hJ2.2, bl_e (by omega) (fsp_n2 e1 (of_decide_eq_false c_4) e2 (of_decide_eq_false c_8))])) dX6_blameOf_71)
        ·
          refine v_aload_n C dX6_blameOf_60 rfl 0 rfl ?_
          refine v_get C 0 (kf := 4) rfl rfl (by decide) inX6_blameOf_6 lkX6_blameOf_21 rfl rfl dX6_blameOf_61 ?_
          refine v_iload_n C dX6_blameOf_64 rfl 3 rfl ?_
          refine v_iald C 3 (x.1) rfl rfl (by omega) (by decide) dX6_blameOf_65 ?_
          rw [e2]
          refine v_istore_n C [(3, .int (iI ((k : Nat) : Int))), (0, .ref (mm)), (1, .int (iI ((c0 : Nat) : Int))), (2, .int (iI ((i0 : Nat) : Int)))] dX6_blameOf_66 rfl (by decide) rfl ?_
          refine v_goto C 2 dX6_blameOf_67 (by decide) ?_
          refine v_lv (lv' := [(0, .ref (mm)), (1, .int (iI ((c0 : Nat) : Int))), (2, .int (iI ((i0 : Nat) : Int))), (3, .int (iI ((k : Nat) : Int)))]) [1, 2, 3, 0] rfl ?_
          exact ih2 ((k, x.2 + 1)) ⟨by show k + (x.2 + 1) ≤ c0; omega, by rw [hJ2.2]; exact bl_s (by omega) (by rw [fsp_b e1 (of_decide_eq_false c_4) e2 (of_decide_eq_true c_8)]; omega) (fsp_b e1 (of_decide_eq_false c_4) e2 (of_decide_eq_true c_8))⟩ (by omega)
    ·
      refine v_aload_n C dX6_blameOf_26 rfl 0 rfl ?_
      refine v_get C 0 (kf := 3) rfl rfl (by decide) inX6_blameOf_6 lkX6_blameOf_17 rfl rfl dX6_blameOf_27 ?_
      refine v_iload_n C dX6_blameOf_30 rfl 3 rfl ?_
      refine v_iald C 2 (x.1) rfl rfl (by omega) (by decide) dX6_blameOf_31 ?_
      rw [e1]
      refine v_istore_n C [(3, .int (iI ((k : Nat) : Int))), (0, .ref (mm)), (1, .int (iI ((c0 : Nat) : Int))), (2, .int (iI ((i0 : Nat) : Int)))] dX6_blameOf_32 rfl (by decide) rfl ?_
      refine v_goto C 2 dX6_blameOf_33 (by decide) ?_
      refine v_lv (lv' := [(0, .ref (mm)), (1, .int (iI ((c0 : Nat) : Int))), (2, .int (iI ((i0 : Nat) : Int))), (3, .int (iI ((k : Nat) : Int)))]) [1, 2, 3, 0] rfl ?_
      exact ih2 ((k, x.2 + 1)) ⟨by show k + (x.2 + 1) ≤ c0; omega, by rw [hJ2.2]; exact bl_s (by omega) (by rw [fsp_a e1 (of_decide_eq_true c_4)]; omega) (fsp_a e1 (of_decide_eq_true c_4))⟩ (by omega)
theorem inX6_conflictsIn_6 : ∀ w ∈ u_ws RX6 TX6 23, w ∈ wsX6_conflictsIn := by decide +kernel
theorem lkX6_conflictsIn_76 : Cond.fieldLink RX6 76 "MergeAtelierModel" "items" "I" ∈ wsX6_conflictsIn := by decide +kernel
set_option maxHeartbeats 4000000 in
set_option maxRecDepth 100000 in
theorem kX6_conflictsIn (l : Launch) (g : vG) {mm b1 b2 b3 b4 b5 b6 b7 b8 b9 b10 b11 b12 b13 b14 b15 b16 b17 : Nat} {kinds tgs first second vals qs : Nat → Int} {hds An qi qo Tm Nw Kw ris : Nat → Nat} {ni bc cm cn qc cd : Nat} {c0 : Nat} (hI : MI vals ris cn kinds tgs first second qs hds An qi qo Tm ni bc cm qc) (hc0 : c0 < cm) : mI l g yX6_conflictsIn wsX6_conflictsIn ({ frames := 3, cells := 0, slots := 0, locals := 72 }) [.ref (mm), .int (iI ((c0 : Nat) : Int))] (wMM g mm b1 b2 b3 b4 b5 b6 b7 b8 b9 b10 b11 b12 b13 b14 b15 b16 b17 kinds ni cm first second An An Tm Tm bc hds tgs qc qi qo qs cn vals Nw Nw Kw Kw cd ++ ([])) (fun _ : Unit => wMM g mm b1 b2 b3 b4 b5 b6 b7 b8 b9 b10 b11 b12 b13 b14 b15 b16 b17 kinds ni cm first second An An Tm Tm bc hds tgs qc qi qo qs cn vals Nw Nw Kw Kw cd ++ ([])) (fun v _ => v = iI ((fb_ct (fun i => decide (1 < cnt (Tm (12 * c0 + i)))) ni : Nat) : Int)) 0 0 := by
  refine mI_of (cc := cX6_conflictsIn) (maxL := 4) (ret := (some .int)) (own := RX6) (by decide) rfl rfl (Nat.le_of_ble_eq_true rfl) ?_
  intro p e s m args below meth c A C hr hl hin
  obtain ⟨hni, hbc1, hbc, hcm1, hcm, hcn1, hnm, hqc, hhd, htg, hf, hs, hfc, hsc, hAn, hTm, hao, hpal, hqb, hqi, htk, hkd⟩ := id hI
  refine v_iconst C (z := 0) dX6_conflictsIn_0 ?_
  refine v_istore_n C [(2, .int (iI (0))), (0, .ref (mm)), (1, .int (iI ((c0 : Nat) : Int)))] dX6_conflictsIn_1 rfl (by decide) rfl ?_
  refine v_iconst C (z := 0) dX6_conflictsIn_2 ?_
  refine v_istore_n C [(3, .int (iI (0))), (2, .int (iI (0))), (0, .ref (mm)), (1, .int (iI ((c0 : Nat) : Int)))] dX6_conflictsIn_3 rfl (by decide) rfl ?_
  refine v_lv (lv' := [(0, .ref (mm)), (1, .int (iI ((c0 : Nat) : Int))), (2, .int (iI ((fb_ct (fun i => decide (1 < cnt (Tm (12 * c0 + i)))) 0 : Nat) : Int))), (3, .int (iI ((0 : Nat) : Int)))]) [2, 3, 1, 0] rfl ?_
  refine v_lp1 (X := Nat) (fun q => wMM g mm b1 b2 b3 b4 b5 b6 b7 b8 b9 b10 b11 b12 b13 b14 b15 b16 b17 kinds ni cm first second An An Tm Tm bc hds tgs qc qi qo qs cn vals Nw Nw Kw Kw cd ++ ([])) (fun q => [(0, .ref (mm)), (1, .int (iI ((c0 : Nat) : Int))), (2, .int (iI ((fb_ct (fun i => decide (1 < cnt (Tm (12 * c0 + i)))) q : Nat) : Int))), (3, .int (iI ((q : Nat) : Int)))]) (fun q => ni - q) (fun q => q ≤ ni) ?_ (0) (Nat.zero_le _)
  intro q hJ4 ih4
  try dsimp only at hJ4 ⊢
  refine v_iload_n C dX6_conflictsIn_4 rfl 3 rfl ?_
  refine v_aload_n C dX6_conflictsIn_5 rfl 0 rfl ?_
  refine v_get C 0 (kf := 0) rfl rfl (by decide) inX6_conflictsIn_6 lkX6_conflictsIn_76 rfl rfl dX6_conflictsIn_6 ?_
  refine v_icmp_ge C 36 dX6_conflictsIn_9 (by decide) ⟨by omega, by omega⟩ ⟨by omega, by omega⟩ (fun c_1 => ?_) (fun c_1 => ?_)
  ·
    obtain rfl : ni = q := by omega
    refine v_iload_n C dX6_conflictsIn_36 rfl 2 rfl ?_
    exact (v_iret C hr hl () (by decide) (by decide) rfl rfl dX6_conflictsIn_37)
  ·
    refine v_iload_n C dX6_conflictsIn_12 rfl 2 rfl ?_
    refine v_aload_n C dX6_conflictsIn_13 rfl 0 rfl ?_
    refine v_iload_n C dX6_conflictsIn_14 rfl 1 rfl ?_
    refine v_iload_n C dX6_conflictsIn_15 rfl 3 rfl ?_
    refine v_invVI C (As := [.int (iI ((c0 : Nat) : Int)), .int (iI ((q : Nat) : Int))]) (q0 := 0) (ci := 6) (kX6_sidesIn l g (mm := mm) (b1 := b1) (b2 := b2) (b3 := b3) (b4 := b4) (b5 := b5) (b6 := b6) (b7 := b7) (b8 := b8) (b9 := b9) (b10 := b10) (b11 := b11) (b12 := b12) (b13 := b13) (b14 := b14) (b15 := b15) (b16 := b16) (b17 := b17) (kinds := kinds) (tgs := tgs) (first := first) (second := second) (vals := vals) (qs := qs) (hds := hds) (An := An) (qi := qi) (qo := qo) (Tm := Tm) (Nw := Nw) (Kw := Kw) (ni := ni) (bc := bc) (cm := cm) (cn := cn) (qc := qc) (cd := cd) (ris := ris) (c0 := c0) (i0 := q) (by omega) (by omega) (by omega) (htk.lt (by omega) (by omega))) (cwV 2 C.2.2.2.2.1 gX6_conflictsIn_X6_sidesIn rfl rfl rfl (by decide +kernel) ⟨Nat.le_of_ble_eq_true rfl, Nat.le_of_ble_eq_true rfl⟩) [wMM g mm b1 b2 b3 b4 b5 b6 b7 b8 b9 b10 b11 b12 b13 b14 b15 b16 b17 kinds ni cm first second An An Tm Tm bc hds tgs qc qi qo qs cn vals Nw Nw Kw Kw cd] [0] [] [.int (iI ((fb_ct (fun i => decide (1 < cnt (Tm (12 * c0 + i)))) q : Nat) : Int))] (fun _ => [wMM g mm b1 b2 b3 b4 b5 b6 b7 b8 b9 b10 b11 b12 b13 b14 b15 b16 b17 kinds ni cm first second An An Tm Tm bc hds tgs qc qi qo qs cn vals Nw Nw Kw Kw cd]) (fun _ => wMM g mm b1 b2 b3 b4 b5 b6 b7 b8 b9 b10 b11 b12 b13 b14 b15 b16 b17 kinds ni cm first second An An Tm Tm bc hds tgs qc qi qo qs cn vals Nw Nw Kw Kw cd ++ ([])) rfl rfl rfl (fun _ => rfl) (fun _ => rfl) (fun _ => rfl) (fun _ => rfl) rfl rfl rfl rfl rfl (Nat.le_of_ble_eq_true rfl) dX6_conflictsIn_16 ⟨by decide, by decide⟩ (fun r_3 _ h_2 => ?_)
    subst h_2
    refine v_iconst C (z := 1) dX6_conflictsIn_19 ?_
    refine v_icmp_le C 27 dX6_conflictsIn_20 (by decide) (cnt31 _) (b31_lit _ rfl) (fun c_4 => ?_) (fun c_4 => ?_)
    ·
      refine v_iconst C (z := 0) dX6_conflictsIn_27 ?_
      refine v_iadd C dX6_conflictsIn_28 ?_
      rw [show (((fb_ct (fun i => decide (1 < cnt (Tm (12 * c0 + i)))) q : Nat) : Int)) + 0 = (((fb_ct (fun i => decide (1 < cnt (Tm (12 * c0 + i)))) q) + 0 : Nat) : Int) from rfl]
      refine v_istore_n C [(2, .int (iI (((fb_ct (fun i => decide (1 < cnt (Tm (12 * c0 + i)))) q) + 0 : Nat) : Int))), (0, .ref (mm)), (1, .int (iI ((c0 : Nat) : Int))), (3, .int (iI ((q : Nat) : Int)))] dX6_conflictsIn_29 rfl (by decide) rfl ?_
      refine v_iinc C [(3, .int (iI (((q : Nat) : Int) + 1))), (2, .int (iI (((fb_ct (fun i => decide (1 < cnt (Tm (12 * c0 + i)))) q) + 0 : Nat) : Int))), (0, .ref (mm)), (1, .int (iI ((c0 : Nat) : Int)))] dX6_conflictsIn_30 3 rfl (by decide) rfl ?_
      rw [show ((q : Nat) : Int) + 1 = ((q + 1 : Nat) : Int) from rfl]
      refine v_goto C 4 dX6_conflictsIn_33 (by decide) ?_
      refine v_lv (lv' := [(0, .ref (mm)), (1, .int (iI ((c0 : Nat) : Int))), (2, .int (iI (((fb_ct (fun i => decide (1 < cnt (Tm (12 * c0 + i)))) q) + 0 : Nat) : Int))), (3, .int (iI ((q + 1 : Nat) : Int)))]) [2, 3, 1, 0] rfl ?_
      rw [show (((fb_ct (fun i => decide (1 < cnt (Tm (12 * c0 + i)))) q) + 0 : Nat) : Int) = ((fb_ct (fun i => decide (1 < cnt (Tm (12 * c0 + i)))) (q + 1) : Nat) : Int) from (ct_fz (decide_eq_false (by omega)))]
      exact ih4 (q + 1) (by omega) (by omega)
    ·
      refine v_iconst C (z := 1) dX6_conflictsIn_23 ?_
      refine v_goto C 28 dX6_conflictsIn_24 (by decide) ?_
      refine v_iadd C dX6_conflictsIn_28 ?_
      rw [show (((fb_ct (fun i => decide (1 < cnt (Tm (12 * c0 + i)))) q : Nat) : Int)) + 1 = (((fb_ct (fun i => decide (1 < cnt (Tm (12 * c0 + i)))) q) + 1 : Nat) : Int) from rfl]
      refine v_istore_n C [(2, .int (iI (((fb_ct (fun i => decide (1 < cnt (Tm (12 * c0 + i)))) q) + 1 : Nat) : Int))), (0, .ref (mm)), (1, .int (iI ((c0 : Nat) : Int))), (3, .int (iI ((q : Nat) : Int)))] dX6_conflictsIn_29 rfl (by decide) rfl ?_
      refine v_iinc C [(3, .int (iI (((q : Nat) : Int) + 1))), (2, .int (iI (((fb_ct (fun i => decide (1 < cnt (Tm (12 * c0 + i)))) q) + 1 : Nat) : Int))), (0, .ref (mm)), (1, .int (iI ((c0 : Nat) : Int)))] dX6_conflictsIn_30 3 rfl (by decide) rfl ?_
      rw [show ((q : Nat) : Int) + 1 = ((q + 1 : Nat) : Int) from rfl]
      refine v_goto C 4 dX6_conflictsIn_33 (by decide) ?_
      refine v_lv (lv' := [(0, .ref (mm)), (1, .int (iI ((c0 : Nat) : Int))), (2, .int (iI (((fb_ct (fun i => decide (1 < cnt (Tm (12 * c0 + i)))) q) + 1 : Nat) : Int))), (3, .int (iI ((q + 1 : Nat) : Int)))]) [2, 3, 1, 0] rfl ?_
      rw [show (((fb_ct (fun i => decide (1 < cnt (Tm (12 * c0 + i)))) q) + 1 : Nat) : Int) = ((fb_ct (fun i => decide (1 < cnt (Tm (12 * c0 + i)))) (q + 1) : Nat) : Int) from (ct_tz (decide_eq_true (by omega)))]
      exact ih4 (q + 1) (by omega) (by omega)
