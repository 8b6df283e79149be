/-- a place's number in each row below c told -/
def colP (T : Nat → Nat) (n c : Nat) : Nat → Nat := fun k => if k % 12 = n ∧ k < 12 * c then 1 else T k
theorem colP_0 (T : Nat → Nat) (n : Nat) : colP T n 0 = T := funext fun k => if_neg (by omega)
theorem colP_s {T : Nat → Nat} {n c : Nat} (hn : n < 12) : updN (colP T n c) (12 * c + n) 1 = colP T n (c + 1) := by
  funext k
  unfold updN colP
  by_cases e : k = 12 * c + n
  · rw [if_pos e, if_pos ⟨by omega, by omega⟩]
  · rw [if_neg e]
    by_cases e2 : k % 12 = n ∧ k < 12 * c
    · rw [if_pos e2, if_pos ⟨e2.1, by omega⟩]
    · rw [if_neg e2, if_neg (by omega)]
theorem colP_hi {T : Nat → Nat} {n : Nat} (h : ∀ c, c < 100 → T (12 * c + n) = 0) : xmh T = xmh (colP T n 100) := by
  funext k
  show hiM (T k) = hiM (colP T n 100 k)
  unfold colP
  by_cases e : k % 12 = n ∧ k < 12 * 100
  · rw [if_pos e]
    have := h (k / 12) (by omega)
    rw [show 12 * (k / 12) + n = k by omega] at this
    rw [this]
    decide
  · rw [if_neg e]
theorem cnt_pos {S : Nat} (h0 : 0 < S) (h : S < 2 ^ 128) : 0 < cnt S := by
  obtain ⟨k, hk⟩ := Nat.exists_testBit_of_ne_zero (Nat.ne_of_gt h0)
  exact ct_pos (k := k) (Nat.lt_of_not_le (fun q => by rw [tb_lt h q] at hk; exact Bool.noConfusion hk)) hk
theorem inX6_addItem_6 : ∀ w ∈ u_ws RX6 TX6 23, w ∈ wsX6_addItem := by decide +kernel
theorem lkX6_addItem_76 : Cond.fieldLink RX6 76 "MergeAtelierModel" "items" "I" ∈ wsX6_addItem := by decide +kernel
theorem lkX6_addItem_7 : Cond.fieldLink RX6 7 "MergeAtelierModel" "kinds" "[C" ∈ wsX6_addItem := by decide +kernel
theorem lkX6_addItem_31 : Cond.fieldLink RX6 31 "MergeAtelierModel" "low" "[J" ∈ wsX6_addItem := by decide +kernel
set_option maxHeartbeats 4000000 in
set_option maxRecDepth 100000 in
theorem kX6_addItem_ok (l : Launch) (g : vG) {mm b1 b2 b3 b4 b5 b6 b7 b8 b9 b10 b11 b12 b13 b14 b15 b16 b17 : Nat} {kinds tgs first second vals qs : Nat → Int} {hds An qi qo Tm Nw Kw ris : Nat → Nat} {ni bc cm cn qc cd : Nat} {x : Int} (hI : MI vals ris cn kinds tgs first second qs hds An qi qo Tm ni bc cm qc)  (hxc : 0 ≤ x ∧ x < 65536) (hx : x = 116 ∨ x = 99 ∨ x = 115) (hn : ni < 12) (hz : ∀ c, c < 100 → Tm (12 * c + ni) = 0) : mI l g yX6_addItem wsX6_addItem ({ frames := 1, cells := 0, slots := 0, locals := 21 }) [.ref (mm), .int (iI (x))] (wMM g mm b1 b2 b3 b4 b5 b6 b7 b8 b9 b10 b11 b12 b13 b14 b15 b16 b17 kinds ni cm first second An An Tm Tm bc hds tgs qc qi qo qs cn vals Nw Nw Kw Kw cd ++ ([])) (fun _ : Unit => wMM g mm b1 b2 b3 b4 b5 b6 b7 b8 b9 b10 b11 b12 b13 b14 b15 b16 b17 (updZ kinds (ni) (x)) (ni + 1) cm first second An An (colP Tm ni 100) (colP Tm ni 100) bc hds tgs qc qi qo qs cn vals Nw Nw Kw Kw 0 ++ ([])) (fun v _ => v = iI ((ni : Nat) : Int)) 0 0 := by
  refine mI_of (cc := cX6_addItem) (maxL := 3) (ret := (some .int)) (own := RX6) (by decide) rfl rfl (Nat.le_of_ble_eq_true rfl) ?_
  intro p e s m args below meth c A C hr hl hin
  obtain ⟨hni, hbc1, hbc, hcm1, hcm, hcn1, hnm, hqc, hhd, htg, hf, hs, hfc, hsc, hAn, hTm, hao, hpal, hqb, hqi, htk, hkd⟩ := id hI
  refine v_aload_n C dX6_addItem_0 rfl 0 rfl ?_
  refine v_iload_n C dX6_addItem_1 rfl 1 rfl ?_
  refine v_bipush C (z := 116) dX6_addItem_2 rfl ?_
  refine v_icmp_eq C 23 dX6_addItem_4 (by decide) ⟨by omega, by omega⟩ (b31_lit _ rfl) (fun c_1 => ?_) (fun c_1 => ?_)
  ·
    refine v_aload_n C dX6_addItem_23 rfl 0 rfl ?_
    refine v_get C 0 (kf := 0) rfl rfl (by decide) inX6_addItem_6 lkX6_addItem_76 rfl rfl dX6_addItem_24 ?_
    refine v_bipush C (z := 12) dX6_addItem_27 rfl ?_
    refine v_icmp_ne C 36 dX6_addItem_29 (by decide) ⟨by omega, by omega⟩ (b31_lit _ rfl) (fun c_2 => ?_) (fun c_2 => ?_)
    ·
      refine v_iconst C (z := 0) dX6_addItem_36 ?_
      refine v_invVI C (As := [.int (iI (0))]) (q0 := 0) (ci := 6) (kX6_fails_z l g (mm := mm) (b1 := b1) (b2 := b2) (b3 := b3) (b4 := b4) (b5 := b5) (b6 := b6) (b7 := b7) (b8 := b8) (b9 := b9) (b10 := b10) (b11 := b11) (b12 := b12) (b13 := b13) (b14 := b14) (b15 := b15) (b16 := b16) (b17 := b17) (kinds := kinds) (tgs := tgs) (first := first) (second := second) (vals := vals) (qs := qs) (hds := hds) (An := An) (qi := qi) (qo := qo) (Tm := Tm) (Nw := Nw) (Kw := Kw) (ni := ni) (bc := bc) (cm := cm) (cn := cn) (qc := qc) (cd := cd) (ris := ris)  ) (cwV 1 C.2.2.2.2.1 gX6_addItem_X6_fails rfl rfl rfl (by decide +kernel) ⟨Nat.le_of_ble_eq_true rfl, Nat.le_of_ble_eq_true rfl⟩) [wMM g mm b1 b2 b3 b4 b5 b6 b7 b8 b9 b10 b11 b12 b13 b14 b15 b16 b17 kinds ni cm first second An An Tm Tm bc hds tgs qc qi qo qs cn vals Nw Nw Kw Kw cd] [0] [] [] (fun _ => [wMM g mm b1 b2 b3 b4 b5 b6 b7 b8 b9 b10 b11 b12 b13 b14 b15 b16 b17 kinds ni cm first second An An Tm Tm bc hds tgs qc qi qo qs cn vals Nw Nw Kw Kw 0]) (fun _ => wMM g mm b1 b2 b3 b4 b5 b6 b7 b8 b9 b10 b11 b12 b13 b14 b15 b16 b17 kinds ni cm first second An An Tm Tm bc hds tgs qc qi qo qs cn vals Nw Nw Kw Kw 0 ++ ([])) rfl rfl rfl (fun _ => rfl) (fun _ => rfl) (fun _ => rfl) (fun _ => rfl) rfl rfl rfl rfl rfl (Nat.le_of_ble_eq_true rfl) dX6_addItem_37 ⟨by decide, by decide⟩ (fun r_4 _ h_3 => ?_)
      subst h_3
      refine v_ifz_eq C 45 dX6_addItem_40 (by decide) (fun _ => ?_) (fun h => nomatch h) 
      refine v_aload_n C dX6_addItem_45 rfl 0 rfl ?_
      refine v_get C 0 (kf := 1) rfl rfl (by decide) inX6_addItem_6 lkX6_addItem_7 rfl rfl dX6_addItem_46 ?_
      refine v_aload_n C dX6_addItem_49 rfl 0 rfl ?_
      refine v_get C 0 (kf := 0) rfl rfl (by decide) inX6_addItem_6 lkX6_addItem_76 rfl rfl dX6_addItem_50 ?_
      refine v_iload_n C dX6_addItem_53 rfl 1 rfl ?_
      refine v_cast C 1 (ni) (wMM g mm b1 b2 b3 b4 b5 b6 b7 b8 b9 b10 b11 b12 b13 b14 b15 b16 b17 (updZ kinds (ni) (x)) ni cm first second An An Tm Tm bc hds tgs qc qi qo qs cn vals Nw Nw Kw Kw 0 ++ ([])) rfl rfl (by omega) (by decide) (chr_vp hxc.1 hxc.2) dX6_addItem_54 rfl ?_
      refine v_iconst C (z := 0) dX6_addItem_55 ?_
      refine v_istore_n C [(2, .int (iI (0))), (0, .ref (mm)), (1, .int (iI (x)))] dX6_addItem_56 rfl (by decide) rfl ?_
      refine v_lv (lv' := [(0, .ref (mm)), (2, .int (iI ((0 : Nat) : Int)))]) [1, 0] rfl ?_
      refine v_ws (ws' := wMM g mm b1 b2 b3 b4 b5 b6 b7 b8 b9 b10 b11 b12 b13 b14 b15 b16 b17 (updZ kinds (ni) (x)) ni cm first second An An (colP Tm ni 0) Tm bc hds tgs qc qi qo qs cn vals Nw Nw Kw Kw 0 ++ ([])) (by rw [colP_0]) ?_
      refine v_lp1 (X := Nat) (fun c => wMM g mm b1 b2 b3 b4 b5 b6 b7 b8 b9 b10 b11 b12 b13 b14 b15 b16 b17 (updZ kinds (ni) (x)) ni cm first second An An (colP Tm ni c) Tm bc hds tgs qc qi qo qs cn vals Nw Nw Kw Kw 0 ++ ([])) (fun c => [(0, .ref (mm)), (2, .int (iI ((c : Nat) : Int)))]) (fun c => 100 - c) (fun c => c ≤ 100) ?_ (0) (Nat.zero_le _)
      intro c hJ57 ih57
      try dsimp only at hJ57 ⊢
      refine v_iload_n C dX6_addItem_57 rfl 1 rfl ?_
      refine v_bipush C (z := 100) dX6_addItem_58 rfl ?_
      refine v_icmp_ge C 83 dX6_addItem_60 (by decide) ⟨by omega, by omega⟩ (b31_lit _ rfl) (fun c_5 => ?_) (fun c_5 => ?_)
      ·
        obtain rfl : c = 100 := by omega
        refine v_aload_n C dX6_addItem_83 rfl 0 rfl ?_
        refine v_dup C dX6_addItem_84 rfl ?_
        refine v_get C 0 (kf := 0) rfl rfl (by decide) inX6_addItem_6 lkX6_addItem_76 rfl rfl dX6_addItem_85 ?_
        refine v_iconst C (z := 1) dX6_addItem_88 ?_
        refine v_iadd C dX6_addItem_89 ?_
        rw [show (((ni : Nat) : Int)) + 1 = ((ni + 1 : Nat) : Int) from rfl]
        refine v_put C 0 (kf := 0) (wMM g mm b1 b2 b3 b4 b5 b6 b7 b8 b9 b10 b11 b12 b13 b14 b15 b16 b17 (updZ kinds (ni) (x)) (ni + 1) cm first second An An (colP Tm ni 100) Tm bc hds tgs qc qi qo qs cn vals Nw Nw Kw Kw 0 ++ ([])) rfl rfl (by decide) inX6_addItem_6 lkX6_addItem_76 rfl tyX6_ok nmX6 rfl rfl rfl (Nat.le_of_ble_eq_true rfl) dX6_addItem_90 rfl ?_
        refine v_aload_n C dX6_addItem_93 rfl 0 rfl ?_
        refine v_get C 0 (kf := 0) rfl rfl (by decide) inX6_addItem_6 lkX6_addItem_76 rfl rfl dX6_addItem_94 ?_
        refine v_iconst C (z := 1) dX6_addItem_97 ?_
        refine v_isub C dX6_addItem_98 ?_
        exact (v_iret C hr hl () (by decide) (by decide) (congrArg (· ++ []) (wMM_h g rfl rfl rfl (colP_hi hz))) (congrArg iI (by omega)) dX6_addItem_99)
      ·
        refine v_aload_n C dX6_addItem_63 rfl 0 rfl ?_
        refine v_get C 0 (kf := 7) rfl rfl (by decide) inX6_addItem_6 lkX6_addItem_31 rfl rfl dX6_addItem_64 ?_
        refine v_iload_n C dX6_addItem_67 rfl 1 rfl ?_
        refine v_aload_n C dX6_addItem_68 rfl 0 rfl ?_
        refine v_get C 0 (kf := 0) rfl rfl (by decide) inX6_addItem_6 lkX6_addItem_76 rfl rfl dX6_addItem_69 ?_
        refine v_invSI C (As := [.int (iI ((c : Nat) : Int)), .int (iI ((ni : Nat) : Int))]) (kX6_at l g  (r0 := c) (i0 := ni) ) (cwS 2 C.2.2.2.2.1 gX6_addItem_X6_at rfl rfl rfl (by decide +kernel) ⟨Nat.le_of_ble_eq_true rfl, Nat.le_of_ble_eq_true rfl⟩) [wMM g mm b1 b2 b3 b4 b5 b6 b7 b8 b9 b10 b11 b12 b13 b14 b15 b16 b17 (updZ kinds (ni) (x)) ni cm first second An An (colP Tm ni c) Tm bc hds tgs qc qi qo qs cn vals Nw Nw Kw Kw 0] [] [0] [.ref (b6)] (fun _ => [wMM g mm b1 b2 b3 b4 b5 b6 b7 b8 b9 b10 b11 b12 b13 b14 b15 b16 b17 (updZ kinds (ni) (x)) ni cm first second An An (colP Tm ni c) Tm bc hds tgs qc qi qo qs cn vals Nw Nw Kw Kw 0]) (fun _ => wMM g mm b1 b2 b3 b4 b5 b6 b7 b8 b9 b10 b11 b12 b13 b14 b15 b16 b17 (updZ kinds (ni) (x)) ni cm first second An An (colP Tm ni c) Tm bc hds tgs qc qi qo qs cn vals Nw Nw Kw Kw 0 ++ ([])) rfl rfl rfl (fun _ => rfl) (fun _ => rfl) (fun _ => rfl) (fun _ => rfl) rfl rfl (Nat.le_of_ble_eq_true rfl) dX6_addItem_72 ⟨by decide, by decide⟩ (fun r_7 _ h_6 => ?_)
        subst h_6
        refine v_lconst C (v := lN 1) dX6_addItem_75 rfl ?_
        refine v_st (st' := [.long (loM (1)), .int (iI ((12 * c + ni : Nat) : Int)), .ref (b6)]) rfl ?_
        refine v_last C 6 (12 * c + ni) (xml (updN (colP Tm ni c) (12 * c + ni) (1))) (wMM g mm b1 b2 b3 b4 b5 b6 b7 b8 b9 b10 b11 b12 b13 b14 b15 b16 b17 (updZ kinds (ni) (x)) ni cm first second An An (updN (colP Tm ni c) (12 * c + ni) (1)) Tm bc hds tgs qc qi qo qs cn vals Nw Nw Kw Kw 0 ++ ([])) rfl rfl (by omega) (by decide) dX6_addItem_76 (xml_upd _ _ _) rfl ?_
        refine v_iinc C [(2, .int (iI (((c : Nat) : Int) + 1))), (0, .ref (mm))] dX6_addItem_77 1 rfl (by decide) rfl ?_
        rw [show ((c : Nat) : Int) + 1 = ((c + 1 : Nat) : Int) from rfl]
        refine v_goto C 57 dX6_addItem_80 (by decide) ?_
        refine v_lv (lv' := [(0, .ref (mm)), (2, .int (iI ((c + 1 : Nat) : Int)))]) [1, 0] rfl ?_
        refine v_ws (ws' := wMM g mm b1 b2 b3 b4 b5 b6 b7 b8 b9 b10 b11 b12 b13 b14 b15 b16 b17 (updZ kinds (ni) (x)) ni cm first second An An (colP Tm ni (c + 1)) Tm bc hds tgs qc qi qo qs cn vals Nw Nw Kw Kw 0 ++ ([])) (by rw [colP_s hn]) ?_
        exact ih57 (c + 1) (by omega) (by omega)
    ·
      exfalso; omega
  ·
    refine v_iload_n C dX6_addItem_7 rfl 1 rfl ?_
    refine v_bipush C (z := 99) dX6_addItem_8 rfl ?_
    refine v_icmp_eq C 23 dX6_addItem_10 (by decide) ⟨by omega, by omega⟩ (b31_lit _ rfl) (fun c_8 => ?_) (fun c_8 => ?_)
    ·
      refine v_aload_n C dX6_addItem_23 rfl 0 rfl ?_
      refine v_get C 0 (kf := 0) rfl rfl (by decide) inX6_addItem_6 lkX6_addItem_76 rfl rfl dX6_addItem_24 ?_
      refine v_bipush C (z := 12) dX6_addItem_27 rfl ?_
      refine v_icmp_ne C 36 dX6_addItem_29 (by decide) ⟨by omega, by omega⟩ (b31_lit _ rfl) (fun c_9 => ?_) (fun c_9 => ?_)
      ·
        refine v_iconst C (z := 0) dX6_addItem_36 ?_
        refine v_invVI C (As := [.int (iI (0))]) (q0 := 0) (ci := 6) (kX6_fails_z l g (mm := mm) (b1 := b1) (b2 := b2) (b3 := b3) (b4 := b4) (b5 := b5) (b6 := b6) (b7 := b7) (b8 := b8) (b9 := b9) (b10 := b10) (b11 := b11) (b12 := b12) (b13 := b13) (b14 := b14) (b15 := b15) (b16 := b16) (b17 := b17) (kinds := kinds) (tgs := tgs) (first := first) (second := second) (vals := vals) (qs := qs) (hds := hds) (An := An) (qi := qi) (qo := qo) (Tm := Tm) (Nw := Nw) (Kw := Kw) (ni := ni) (bc := bc) (cm := cm) (cn := cn) (qc := qc) (cd := cd) (ris := ris)  ) (cwV 1 C.2.2.2.2.1 gX6_addItem_X6_fails rfl rfl rfl (by decide +kernel) ⟨Nat.le_of_ble_eq_true rfl, Nat.le_of_ble_eq_true rfl⟩) [wMM g mm b1 b2 b3 b4 b5 b6 b7 b8 b9 b10 b11 b12 b13 b14 b15 b16 b17 kinds ni cm first second An An Tm Tm bc hds tgs qc qi qo qs cn vals Nw Nw Kw Kw cd] [0] [] [] (fun _ => [wMM g mm b1 b2 b3 b4 b5 b6 b7 b8 b9 b10 b11 b12 b13 b14 b15 b16 b17 kinds ni cm first second An An Tm Tm bc hds tgs qc qi qo qs cn vals Nw Nw Kw Kw 0]) (fun _ => wMM g mm b1 b2 b3 b4 b5 b6 b7 b8 b9 b10 b11 b12 b13 b14 b15 b16 b17 kinds ni cm first second An An Tm Tm bc hds tgs qc qi qo qs cn vals Nw Nw Kw Kw 0 ++ ([])) rfl rfl rfl (fun _ => rfl) (fun _ => rfl) (fun _ => rfl) (fun _ => rfl) rfl rfl rfl rfl rfl (Nat.le_of_ble_eq_true rfl) dX6_addItem_37 ⟨by decide, by decide⟩ (fun r_11 _ h_10 => ?_)
        subst h_10
        refine v_ifz_eq C 45 dX6_addItem_40 (by decide) (fun _ => ?_) (fun h => nomatch h) 
        refine v_aload_n C dX6_addItem_45 rfl 0 rfl ?_
        refine v_get C 0 (kf := 1) rfl rfl (by decide) inX6_addItem_6 lkX6_addItem_7 rfl rfl dX6_addItem_46 ?_
        refine v_aload_n C dX6_addItem_49 rfl 0 rfl ?_
        refine v_get C 0 (kf := 0) rfl rfl (by decide) inX6_addItem_6 lkX6_addItem_76 rfl rfl dX6_addItem_50 ?_
        refine v_iload_n C dX6_addItem_53 rfl 1 rfl ?_
        refine v_cast C 1 (ni) (wMM g mm b1 b2 b3 b4 b5 b6 b7 b8 b9 b10 b11 b12 b13 b14 b15 b16 b17 (updZ kinds (ni) (x)) ni cm first second An An Tm Tm bc hds tgs qc qi qo qs cn vals Nw Nw Kw Kw 0 ++ ([])) rfl rfl (by omega) (by decide) (chr_vp hxc.1 hxc.2) dX6_addItem_54 rfl ?_
        refine v_iconst C (z := 0) dX6_addItem_55 ?_
        refine v_istore_n C [(2, .int (iI (0))), (0, .ref (mm)), (1, .int (iI (x)))] dX6_addItem_56 rfl (by decide) rfl ?_
        refine v_lv (lv' := [(0, .ref (mm)), (2, .int (iI ((0 : Nat) : Int)))]) [1, 0] rfl ?_
        refine v_ws (ws' := wMM g mm b1 b2 b3 b4 b5 b6 b7 b8 b9 b10 b11 b12 b13 b14 b15 b16 b17 (updZ kinds (ni) (x)) ni cm first second An An (colP Tm ni 0) Tm bc hds tgs qc qi qo qs cn vals Nw Nw Kw Kw 0 ++ ([])) (by rw [colP_0]) ?_
        refine v_lp1 (X := Nat) (fun c => wMM g mm b1 b2 b3 b4 b5 b6 b7 b8 b9 b10 b11 b12 b13 b14 b15 b16 b17 (updZ kinds (ni) (x)) ni cm first second An An (colP Tm ni c) Tm bc hds tgs qc qi qo qs cn vals Nw Nw Kw Kw 0 ++ ([])) (fun c => [(0, .ref (mm)), (2, .int (iI ((c : Nat) : Int)))]) (fun c => 100 - c) (fun c => c ≤ 100) ?_ (0) (Nat.zero_le _)
        intro c hJ57 ih57
        try dsimp only at hJ57 ⊢
        refine v_iload_n C dX6_addItem_57 rfl 1 rfl ?_
        refine v_bipush C (z := 100) dX6_addItem_58 rfl ?_
        refine v_icmp_ge C 83 dX6_addItem_60 (by decide) ⟨by omega, by omega⟩ (b31_lit _ rfl) (fun c_12 => ?_) (fun c_12 => ?_)
        ·
          obtain rfl : c = 100 := by omega
          refine v_aload_n C dX6_addItem_83 rfl 0 rfl ?_
          refine v_dup C dX6_addItem_84 rfl ?_
          refine v_get C 0 (kf := 0) rfl rfl (by decide) inX6_addItem_6 lkX6_addItem_76 rfl rfl dX6_addItem_85 ?_
          refine v_iconst C (z := 1) dX6_addItem_88 ?_
          refine v_iadd C dX6_addItem_89 ?_
          rw [show (((ni : Nat) : Int)) + 1 = ((ni + 1 : Nat) : Int) from rfl]
          refine v_put C 0 (kf := 0) (wMM g mm b1 b2 b3 b4 b5 b6 b7 b8 b9 b10 b11 b12 b13 b14 b15 b16 b17 (updZ kinds (ni) (x)) (ni + 1) cm first second An An (colP Tm ni 100) Tm bc hds tgs qc qi qo qs cn vals Nw Nw Kw Kw 0 ++ ([])) rfl rfl (by decide) inX6_addItem_6 lkX6_addItem_76 rfl tyX6_ok nmX6 rfl rfl rfl (Nat.le_of_ble_eq_true rfl) dX6_addItem_90 rfl ?_
          refine v_aload_n C dX6_addItem_93 rfl 0 rfl ?_
          refine v_get C 0 (kf := 0) rfl rfl (by decide) inX6_addItem_6 lkX6_addItem_76 rfl rfl dX6_addItem_94 ?_
          refine v_iconst C (z := 1) dX6_addItem_97 ?_
          refine v_isub C dX6_addItem_98 ?_
          exact (v_iret C hr hl () (by decide) (by decide) (congrArg (· ++ []) (wMM_h g rfl rfl rfl (colP_hi hz))) (congrArg iI (by omega)) dX6_addItem_99)
        ·
          refine v_aload_n C dX6_addItem_63 rfl 0 rfl ?_
          refine v_get C 0 (kf := 7) rfl rfl (by decide) inX6_addItem_6 lkX6_addItem_31 rfl rfl dX6_addItem_64 ?_
          refine v_iload_n C dX6_addItem_67 rfl 1 rfl ?_
          refine v_aload_n C dX6_addItem_68 rfl 0 rfl ?_
          refine v_get C 0 (kf := 0) rfl rfl (by decide) inX6_addItem_6 lkX6_addItem_76 rfl rfl dX6_addItem_69 ?_
          refine v_invSI C (As := [.int (iI ((c : Nat) : Int)), .int (iI ((ni : Nat) : Int))]) (kX6_at l g  (r0 := c) (i0 := ni) ) (cwS 2 C.2.2.2.2.1 gX6_addItem_X6_at rfl rfl rfl (by decide +kernel) ⟨Nat.le_of_ble_eq_true rfl, Nat.le_of_ble_eq_true rfl⟩) [wMM g mm b1 b2 b3 b4 b5 b6 b7 b8 b9 b10 b11 b12 b13 b14 b15 b16 b17 (updZ kinds (ni) (x)) ni cm first second An An (colP Tm ni c) Tm bc hds tgs qc qi qo qs cn vals Nw Nw Kw Kw 0] [] [0] [.ref (b6)] (fun _ => [wMM g mm b1 b2 b3 b4 b5 b6 b7 b8 b9 b10 b11 b12 b13 b14 b15 b16 b17 (updZ kinds (ni) (x)) ni cm first second An An (colP Tm ni c) Tm bc hds tgs qc qi qo qs cn vals Nw Nw Kw Kw 0]) (fun _ => wMM g mm b1 b2 b3 b4 b5 b6 b7 b8 b9 b10 b11 b12 b13 b14 b15 b16 b17 (updZ kinds (ni) (x)) ni cm first second An An (colP Tm ni c) Tm bc hds tgs qc qi qo qs cn vals Nw Nw Kw Kw 0 ++ ([])) rfl rfl rfl (fun _ => rfl) (fun _ => rfl) (fun _ => rfl) (fun _ => rfl) rfl rfl (Nat.le_of_ble_eq_true rfl) dX6_addItem_72 ⟨by decide, by decide⟩ (fun r_14 _ h_13 => ?_)
          subst h_13
          refine v_lconst C (v := lN 1) dX6_addItem_75 rfl ?_
          refine v_st (st' := [.long (loM (1)), .int (iI ((12 * c + ni : Nat) : Int)), .ref (b6)]) rfl ?_
          refine v_last C 6 (12 * c + ni) (xml (updN (colP Tm ni c) (12 * c + ni) (1))) (wMM g mm b1 b2 b3 b4 b5 b6 b7 b8 b9 b10 b11 b12 b13 b14 b15 b16 b17 (updZ kinds (ni) (x)) ni cm first second An An (updN (colP Tm ni c) (12 * c + ni) (1)) Tm bc hds tgs qc qi qo qs cn vals Nw Nw Kw Kw 0 ++ ([])) rfl rfl (by omega) (by decide) dX6_addItem_76 (xml_upd _ _ _) rfl ?_
          refine v_iinc C [(2, .int (iI (((c : Nat) : Int) + 1))), (0, .ref (mm))] dX6_addItem_77 1 rfl (by decide) rfl ?_
          rw [show ((c : Nat) : Int) + 1 = ((c + 1 : Nat) : Int) from rfl]
          refine v_goto C 57 dX6_addItem_80 (by decide) ?_
          refine v_lv (lv' := [(0, .ref (mm)), (2, .int (iI ((c + 1 : Nat) : Int)))]) [1, 0] rfl ?_
          refine v_ws (ws' := wMM g mm b1 b2 b3 b4 b5 b6 b7 b8 b9 b10 b11 b12 b13 b14 b15 b16 b17 (updZ kinds (ni) (x)) ni cm first second An An (colP Tm ni (c + 1)) Tm bc hds tgs qc qi qo qs cn vals Nw Nw Kw Kw 0 ++ ([])) (by rw [colP_s hn]) ?_
          exact ih57 (c + 1) (by omega) (by omega)
      ·
        exfalso; omega
    ·
      refine v_iload_n C dX6_addItem_13 rfl 1 rfl ?_
      refine v_bipush C (z := 115) dX6_addItem_14 rfl ?_
      refine v_icmp_eq C 23 dX6_addItem_16 (by decide) ⟨by omega, by omega⟩ (b31_lit _ rfl) (fun c_15 => ?_) (fun c_15 => ?_)
      ·
        refine v_aload_n C dX6_addItem_23 rfl 0 rfl ?_
        refine v_get C 0 (kf := 0) rfl rfl (by decide) inX6_addItem_6 lkX6_addItem_76 rfl rfl dX6_addItem_24 ?_
        refine v_bipush C (z := 12) dX6_addItem_27 rfl ?_
        refine v_icmp_ne C 36 dX6_addItem_29 (by decide) ⟨by omega, by omega⟩ (b31_lit _ rfl) (fun c_16 => ?_) (fun c_16 => ?_)
        ·
          refine v_iconst C (z := 0) dX6_addItem_36 ?_
          refine v_invVI C (As := [.int (iI (0))]) (q0 := 0) (ci := 6) (kX6_fails_z l g (mm := mm) (b1 := b1) (b2 := b2) (b3 := b3) (b4 := b4) (b5 := b5) (b6 := b6) (b7 := b7) (b8 := b8) (b9 := b9) (b10 := b10) (b11 := b11) (b12 := b12) (b13 := b13) (b14 := b14) (b15 := b15) (b16 := b16) (b17 := b17) (kinds := kinds) (tgs := tgs) (first := first) (second := second) (vals := vals) (qs := qs) (hds := hds) (An := An) (qi := qi) (qo := qo) (Tm := Tm) (Nw := Nw) (Kw := Kw) (ni := ni) (bc := bc) (cm := cm) (cn := cn) (qc := qc) (cd := cd) (ris := ris)  ) (cwV 1 C.2.2.2.2.1 gX6_addItem_X6_fails rfl rfl rfl (by decide +kernel) ⟨Nat.le_of_ble_eq_true rfl, Nat.le_of_ble_eq_true rfl⟩) [wMM g mm b1 b2 b3 b4 b5 b6 b7 b8 b9 b10 b11 b12 b13 b14 b15 b16 b17 kinds ni cm first second An An Tm Tm bc hds tgs qc qi qo qs cn vals Nw Nw Kw Kw cd] [0] [] [] (fun _ => [wMM g mm b1 b2 b3 b4 b5 b6 b7 b8 b9 b10 b11 b12 b13 b14 b15 b16 b17 kinds ni cm first second An An Tm Tm bc hds tgs qc qi qo qs cn vals Nw Nw Kw Kw 0]) (fun _ => wMM g mm b1 b2 b3 b4 b5 b6 b7 b8 b9 b10 b11 b12 b13 b14 b15 b16 b17 kinds ni cm first second An An Tm Tm bc hds tgs qc qi qo qs cn vals Nw Nw Kw Kw 0 ++ ([])) rfl rfl rfl (fun _ => rfl) (fun _ => rfl) (fun _ => rfl) (fun _ => rfl) rfl rfl rfl rfl rfl (Nat.le_of_ble_eq_true rfl) dX6_addItem_37 ⟨by decide, by decide⟩ (fun r_18 _ h_17 => ?_)
          subst h_17
          refine v_ifz_eq C 45 dX6_addItem_40 (by decide) (fun _ => ?_) (fun h => nomatch h) 
          refine v_aload_n C dX6_addItem_45 rfl 0 rfl ?_
          refine v_get C 0 (kf := 1) rfl rfl (by decide) inX6_addItem_6 lkX6_addItem_7 rfl rfl dX6_addItem_46 ?_
          refine v_aload_n C dX6_addItem_49 rfl 0 rfl ?_
          refine v_get C 0 (kf := 0) rfl rfl (by decide) inX6_addItem_6 lkX6_addItem_76 rfl rfl dX6_addItem_50 ?_
          refine v_iload_n C dX6_addItem_53 rfl 1 rfl ?_
          refine v_cast C 1 (ni) (wMM g mm b1 b2 b3 b4 b5 b6 b7 b8 b9 b10 b11 b12 b13 b14 b15 b16 b17 (updZ kinds (ni) (x)) ni cm first second An An Tm Tm bc hds tgs qc qi qo qs cn vals Nw Nw Kw Kw 0 ++ ([])) rfl rfl (by omega) (by decide) (chr_vp hxc.1 hxc.2) dX6_addItem_54 rfl ?_
          refine v_iconst C (z := 0) dX6_addItem_55 ?_
          refine v_istore_n C [(2, .int (iI (0))), (0, .ref (mm)), (1, .int (iI (x)))] dX6_addItem_56 rfl (by decide) rfl ?_
          refine v_lv (lv' := [(0, .ref (mm)), (2, .int (iI ((0 : Nat) : Int)))]) [1, 0] rfl ?_
          refine v_ws (ws' := wMM g mm b1 b2 b3 b4 b5 b6 b7 b8 b9 b10 b11 b12 b13 b14 b15 b16 b17 (updZ kinds (ni) (x)) ni cm first second An An (colP Tm ni 0) Tm bc hds tgs qc qi qo qs cn vals Nw Nw Kw Kw 0 ++ ([])) (by rw [colP_0]) ?_
          refine v_lp1 (X := Nat) (fun c => wMM g mm b1 b2 b3 b4 b5 b6 b7 b8 b9 b10 b11 b12 b13 b14 b15 b16 b17 (updZ kinds (ni) (x)) ni cm first second An An (colP Tm ni c) Tm bc hds tgs qc qi qo qs cn vals Nw Nw Kw Kw 0 ++ ([])) (fun c => [(0, .ref (mm)), (2, .int (iI ((c : Nat) : Int)))]) (fun c => 100 - c) (fun c => c ≤ 100) ?_ (0) (Nat.zero_le _)
          intro c hJ57 ih57
          try dsimp only at hJ57 ⊢
          refine v_iload_n C dX6_addItem_57 rfl 1 rfl ?_
          refine v_bipush C (z := 100) dX6_addItem_58 rfl ?_
          refine v_icmp_ge C 83 dX6_addItem_60 (by decide) ⟨by omega, by omega⟩ (b31_lit _ rfl) (fun c_19 => ?_) (fun c_19 => ?_)
          ·
            obtain rfl : c = 100 := by omega
            refine v_aload_n C dX6_addItem_83 rfl 0 rfl ?_
            refine v_dup C dX6_addItem_84 rfl ?_
            refine v_get C 0 (kf := 0) rfl rfl (by decide) inX6_addItem_6 lkX6_addItem_76 rfl rfl dX6_addItem_85 ?_
            refine v_iconst C (z := 1) dX6_addItem_88 ?_
            refine v_iadd C dX6_addItem_89 ?_
            rw [show (((ni : Nat) : Int)) + 1 = ((ni + 1 : Nat) : Int) from rfl]
            refine v_put C 0 (kf := 0) (wMM g mm b1 b2 b3 b4 b5 b6 b7 b8 b9 b10 b11 b12 b13 b14 b15 b16 b17 (updZ kinds (ni) (x)) (ni + 1) cm first second An An (colP Tm ni 100) Tm bc hds tgs qc qi qo qs cn vals Nw Nw Kw Kw 0 ++ ([])) rfl rfl (by decide) inX6_addItem_6 lkX6_addItem_76 rfl tyX6_ok nmX6 rfl rfl rfl (Nat.le_of_ble_eq_true rfl) dX6_addItem_90 rfl ?_
            refine v_aload_n C dX6_addItem_93 rfl 0 rfl ?_
            refine v_get C 0 (kf := 0) rfl rfl (by decide) inX6_addItem_6 lkX6_addItem_76 rfl rfl dX6_addItem_94 ?_
            refine v_iconst C (z := 1) dX6_addItem_97 ?_
            refine v_isub C dX6_addItem_98 ?_
            exact (v_iret C hr hl () (by decide) (by decide) (congrArg (· ++ []) (wMM_h g rfl rfl rfl (colP_hi hz))) (congrArg iI (by omega)) dX6_addItem_99)
          ·
            refine v_aload_n C dX6_addItem_63 rfl 0 rfl ?_
            refine v_get C 0 (kf := 7) rfl rfl (by decide) inX6_addItem_6 lkX6_addItem_31 rfl rfl dX6_addItem_64 ?_
            refine v_iload_n C dX6_addItem_67 rfl 1 rfl ?_
            refine v_aload_n C dX6_addItem_68 rfl 0 rfl ?_
            refine v_get C 0 (kf := 0) rfl rfl (by decide) inX6_addItem_6 lkX6_addItem_76 rfl rfl dX6_addItem_69 ?_
            refine v_invSI C (As := [.int (iI ((c : Nat) : Int)), .int (iI ((ni : Nat) : Int))]) (kX6_at l g  (r0 := c) (i0 := ni) ) (cwS 2 C.2.2.2.2.1 gX6_addItem_X6_at rfl rfl rfl (by decide +kernel) ⟨Nat.le_of_ble_eq_true rfl, Nat.le_of_ble_eq_true rfl⟩) [wMM g mm b1 b2 b3 b4 b5 b6 b7 b8 b9 b10 b11 b12 b13 b14 b15 b16 b17 (updZ kinds (ni) (x)) ni cm first second An An (colP Tm ni c) Tm bc hds tgs qc qi qo qs cn vals Nw Nw Kw Kw 0] [] [0] [.ref (b6)] (fun _ => [wMM g mm b1 b2 b3 b4 b5 b6 b7 b8 b9 b10 b11 b12 b13 b14 b15 b16 b17 (updZ kinds (ni) (x)) ni cm first second An An (colP Tm ni c) Tm bc hds tgs qc qi qo qs cn vals Nw Nw Kw Kw 0]) (fun _ => wMM g mm b1 b2 b3 b4 b5 b6 b7 b8 b9 b10 b11 b12 b13 b14 b15 b16 b17 (updZ kinds (ni) (x)) ni cm first second An An (colP Tm ni c) Tm bc hds tgs qc qi qo qs cn vals Nw Nw Kw Kw 0 ++ ([])) rfl rfl rfl (fun _ => rfl) (fun _ => rfl) (fun _ => rfl) (fun _ => rfl) rfl rfl (Nat.le_of_ble_eq_true rfl) dX6_addItem_72 ⟨by decide, by decide⟩ (fun r_21 _ h_20 => ?_)
            subst h_20
            refine v_lconst C (v := lN 1) dX6_addItem_75 rfl ?_
            refine v_st (st' := [.long (loM (1)), .int (iI ((12 * c + ni : Nat) : Int)), .ref (b6)]) rfl ?_
            refine v_last C 6 (12 * c + ni) (xml (updN (colP Tm ni c) (12 * c + ni) (1))) (wMM g mm b1 b2 b3 b4 b5 b6 b7 b8 b9 b10 b11 b12 b13 b14 b15 b16 b17 (updZ kinds (ni) (x)) ni cm first second An An (updN (colP Tm ni c) (12 * c + ni) (1)) Tm bc hds tgs qc qi qo qs cn vals Nw Nw Kw Kw 0 ++ ([])) rfl rfl (by omega) (by decide) dX6_addItem_76 (xml_upd _ _ _) rfl ?_
            refine v_iinc C [(2, .int (iI (((c : Nat) : Int) + 1))), (0, .ref (mm))] dX6_addItem_77 1 rfl (by decide) rfl ?_
            rw [show ((c : Nat) : Int) + 1 = ((c + 1 : Nat) : Int) from rfl]
            refine v_goto C 57 dX6_addItem_80 (by decide) ?_
            refine v_lv (lv' := [(0, .ref (mm)), (2, .int (iI ((c + 1 : Nat) : Int)))]) [1, 0] rfl ?_
            refine v_ws (ws' := wMM g mm b1 b2 b3 b4 b5 b6 b7 b8 b9 b10 b11 b12 b13 b14 b15 b16 b17 (updZ kinds (ni) (x)) ni cm first second An An (colP Tm ni (c + 1)) Tm bc hds tgs qc qi qo qs cn vals Nw Nw Kw Kw 0 ++ ([])) (by rw [colP_s hn]) ?_
            exact ih57 (c + 1) (by omega) (by omega)
        ·
          exfalso; omega
      ·
        exfalso; omega
set_option maxHeartbeats 4000000 in
set_option maxRecDepth 100000 in
theorem kX6_addItem_1 (l : Launch) (g : vG) {mm b1 b2 b3 b4 b5 b6 b7 b8 b9 b10 b11 b12 b13 b14 b15 b16 b17 : Nat} {kinds tgs first second vals qs : Nat → Int} {hds An qi qo Tm Nw Kw ris : Nat → Nat} {ni bc cm cn qc cd : Nat} {x : Int} (hI : MI vals ris cn kinds tgs first second qs hds An qi qo Tm ni bc cm qc)  (hxc : 0 ≤ x ∧ x < 65536) (hx : ¬ (x = 116 ∨ x = 99 ∨ x = 115)) : mI l g yX6_addItem wsX6_addItem ({ frames := 1, cells := 0, slots := 0, locals := 21 }) [.ref (mm), .int (iI (x))] (wMM g mm b1 b2 b3 b4 b5 b6 b7 b8 b9 b10 b11 b12 b13 b14 b15 b16 b17 kinds ni cm first second An An Tm Tm bc hds tgs qc qi qo qs cn vals Nw Nw Kw Kw cd ++ ([])) (fun _ : Unit => wMM g mm b1 b2 b3 b4 b5 b6 b7 b8 b9 b10 b11 b12 b13 b14 b15 b16 b17 kinds ni cm first second An An Tm Tm bc hds tgs qc qi qo qs cn vals Nw Nw Kw Kw 1 ++ ([])) (fun _ _ => True) 0 0 := by
  refine mI_of (cc := cX6_addItem) (maxL := 3) (ret := (some .int)) (own := RX6) (by decide) rfl rfl (Nat.le_of_ble_eq_true rfl) ?_
  intro p e s m args below meth c A C hr hl hin
  obtain ⟨hni, hbc1, hbc, hcm1, hcm, hcn1, hnm, hqc, hhd, htg, hf, hs, hfc, hsc, hAn, hTm, hao, hpal, hqb, hqi, htk, hkd⟩ := id hI
  refine v_aload_n C dX6_addItem_0 rfl 0 rfl ?_
  refine v_iload_n C dX6_addItem_1 rfl 1 rfl ?_
  refine v_bipush C (z := 116) dX6_addItem_2 rfl ?_
  refine v_icmp_eq C 23 dX6_addItem_4 (by decide) ⟨by omega, by omega⟩ (b31_lit _ rfl) (fun c_1 => ?_) (fun c_1 => ?_)
  ·
    exfalso; omega
  ·
    refine v_iload_n C dX6_addItem_7 rfl 1 rfl ?_
    refine v_bipush C (z := 99) dX6_addItem_8 rfl ?_
    refine v_icmp_eq C 23 dX6_addItem_10 (by decide) ⟨by omega, by omega⟩ (b31_lit _ rfl) (fun c_2 => ?_) (fun c_2 => ?_)
    ·
      exfalso; omega
    ·
      refine v_iload_n C dX6_addItem_13 rfl 1 rfl ?_
      refine v_bipush C (z := 115) dX6_addItem_14 rfl ?_
      refine v_icmp_eq C 23 dX6_addItem_16 (by decide) ⟨by omega, by omega⟩ (b31_lit _ rfl) (fun c_3 => ?_) (fun c_3 => ?_)
      ·
        exfalso; omega
      ·
        refine v_iconst C (z := 1) dX6_addItem_19 ?_
        refine v_goto C 37 dX6_addItem_20 (by decide) ?_
        refine v_invVI C (As := [.int (iI (1))]) (q0 := 0) (ci := 6) (kX6_fails_p l g (mm := mm) (b1 := b1) (b2 := b2) (b3 := b3) (b4 := b4) (b5 := b5) (b6 := b6) (b7 := b7) (b8 := b8) (b9 := b9) (b10 := b10) (b11 := b11) (b12 := b12) (b13 := b13) (b14 := b14) (b15 := b15) (b16 := b16) (b17 := b17) (kinds := kinds) (tgs := tgs) (first := first) (second := second) (vals := vals) (qs := qs) (hds := hds) (An := An) (qi := qi) (qo := qo) (Tm := Tm) (Nw := Nw) (Kw := Kw) (ni := ni) (bc := bc) (cm := cm) (cn := cn) (qc := qc) (cd := cd) (ris := ris) (q := 1) (by decide)) (cwV 1 C.2.2.2.2.1 gX6_addItem_X6_fails rfl rfl rfl (by decide +kernel) ⟨Nat.le_of_ble_eq_true rfl, Nat.le_of_ble_eq_true rfl⟩) [wMM g mm b1 b2 b3 b4 b5 b6 b7 b8 b9 b10 b11 b12 b13 b14 b15 b16 b17 kinds ni cm first second An An Tm Tm bc hds tgs qc qi qo qs cn vals Nw Nw Kw Kw cd] [0] [] [] (fun _ => [wMM g mm b1 b2 b3 b4 b5 b6 b7 b8 b9 b10 b11 b12 b13 b14 b15 b16 b17 kinds ni cm first second An An Tm Tm bc hds tgs qc qi qo qs cn vals Nw Nw Kw Kw 1]) (fun _ => wMM g mm b1 b2 b3 b4 b5 b6 b7 b8 b9 b10 b11 b12 b13 b14 b15 b16 b17 kinds ni cm first second An An Tm Tm bc hds tgs qc qi qo qs cn vals Nw Nw Kw Kw 1 ++ ([])) rfl rfl rfl (fun _ => rfl) (fun _ => rfl) (fun _ => rfl) (fun _ => rfl) rfl rfl rfl rfl rfl (Nat.le_of_ble_eq_true rfl) dX6_addItem_37 ⟨by decide, by decide⟩ (fun r_5 _ h_4 => ?_)
        subst h_4
        refine v_ifz_eq C 45 dX6_addItem_40 (by decide) (fun h => nomatch h) (fun _ => ?_)
        refine v_iconst C (z := 0) dX6_addItem_43 ?_
        exact (v_iret C hr hl () (by decide) (by decide) rfl trivial dX6_addItem_44)
set_option maxHeartbeats 4000000 in
set_option maxRecDepth 100000 in
theorem kX6_addItem_2 (l : Launch) (g : vG) {mm b1 b2 b3 b4 b5 b6 b7 b8 b9 b10 b11 b12 b13 b14 b15 b16 b17 : Nat} {kinds tgs first second vals qs : Nat → Int} {hds An qi qo Tm Nw Kw ris : Nat → Nat} {ni bc cm cn qc cd : Nat} {x : Int} (hI : MI vals ris cn kinds tgs first second qs hds An qi qo Tm ni bc cm qc)  (hxc : 0 ≤ x ∧ x < 65536) (hx : x = 116 ∨ x = 99 ∨ x = 115) (hn : ni = 12) : mI l g yX6_addItem wsX6_addItem ({ frames := 1, cells := 0, slots := 0, locals := 21 }) [.ref (mm), .int (iI (x))] (wMM g mm b1 b2 b3 b4 b5 b6 b7 b8 b9 b10 b11 b12 b13 b14 b15 b16 b17 kinds ni cm first second An An Tm Tm bc hds tgs qc qi qo qs cn vals Nw Nw Kw Kw cd ++ ([])) (fun _ : Unit => wMM g mm b1 b2 b3 b4 b5 b6 b7 b8 b9 b10 b11 b12 b13 b14 b15 b16 b17 kinds ni cm first second An An Tm Tm bc hds tgs qc qi qo qs cn vals Nw Nw Kw Kw 2 ++ ([])) (fun _ _ => True) 0 0 := by
  refine mI_of (cc := cX6_addItem) (maxL := 3) (ret := (some .int)) (own := RX6) (by decide) rfl rfl (Nat.le_of_ble_eq_true rfl) ?_
  intro p e s m args below meth c A C hr hl hin
  obtain ⟨hni, hbc1, hbc, hcm1, hcm, hcn1, hnm, hqc, hhd, htg, hf, hs, hfc, hsc, hAn, hTm, hao, hpal, hqb, hqi, htk, hkd⟩ := id hI
  refine v_aload_n C dX6_addItem_0 rfl 0 rfl ?_
  refine v_iload_n C dX6_addItem_1 rfl 1 rfl ?_
  refine v_bipush C (z := 116) dX6_addItem_2 rfl ?_
  refine v_icmp_eq C 23 dX6_addItem_4 (by decide) ⟨by omega, by omega⟩ (b31_lit _ rfl) (fun c_1 => ?_) (fun c_1 => ?_)
  ·
    refine v_aload_n C dX6_addItem_23 rfl 0 rfl ?_
    refine v_get C 0 (kf := 0) rfl rfl (by decide) inX6_addItem_6 lkX6_addItem_76 rfl rfl dX6_addItem_24 ?_
    refine v_bipush C (z := 12) dX6_addItem_27 rfl ?_
    refine v_icmp_ne C 36 dX6_addItem_29 (by decide) ⟨by omega, by omega⟩ (b31_lit _ rfl) (fun c_2 => ?_) (fun c_2 => ?_)
    ·
      exfalso; omega
    ·
      refine v_iconst C (z := 2) dX6_addItem_32 ?_
      refine v_goto C 37 dX6_addItem_33 (by decide) ?_
      refine v_invVI C (As := [.int (iI (2))]) (q0 := 0) (ci := 6) (kX6_fails_p l g (mm := mm) (b1 := b1) (b2 := b2) (b3 := b3) (b4 := b4) (b5 := b5) (b6 := b6) (b7 := b7) (b8 := b8) (b9 := b9) (b10 := b10) (b11 := b11) (b12 := b12) (b13 := b13) (b14 := b14) (b15 := b15) (b16 := b16) (b17 := b17) (kinds := kinds) (tgs := tgs) (first := first) (second := second) (vals := vals) (qs := qs) (hds := hds) (An := An) (qi := qi) (qo := qo) (Tm := Tm) (Nw := Nw) (Kw := Kw) (ni := ni) (bc := bc) (cm := cm) (cn := cn) (qc := qc) (cd := cd) (ris := ris) (q := 2) (by decide)) (cwV 1 C.2.2.2.2.1 gX6_addItem_X6_fails rfl rfl rfl (by decide +kernel) ⟨Nat.le_of_ble_eq_true rfl, Nat.le_of_ble_eq_true rfl⟩) [wMM g mm b1 b2 b3 b4 b5 b6 b7 b8 b9 b10 b11 b12 b13 b14 b15 b16 b17 kinds ni cm first second An An Tm Tm bc hds tgs qc qi qo qs cn vals Nw Nw Kw Kw cd] [0] [] [] (fun _ => [wMM g mm b1 b2 b3 b4 b5 b6 b7 b8 b9 b10 b11 b12 b13 b14 b15 b16 b17 kinds ni cm first second An An Tm Tm bc hds tgs qc qi qo qs cn vals Nw Nw Kw Kw 2]) (fun _ => wMM g mm b1 b2 b3 b4 b5 b6 b7 b8 b9 b10 b11 b12 b13 b14 b15 b16 b17 kinds ni cm first second An An Tm Tm bc hds tgs qc qi qo qs cn vals Nw Nw Kw Kw 2 ++ ([])) rfl rfl rfl (fun _ => rfl) (fun _ => rfl) (fun _ => rfl) (fun _ => rfl) rfl rfl rfl rfl rfl (Nat.le_of_ble_eq_true rfl) dX6_addItem_37 ⟨by decide, by decide⟩ (fun r_4 _ h_3 => ?_)
      subst h_3
      refine v_ifz_eq C 45 dX6_addItem_40 (by decide) (fun h => nomatch h) (fun _ => ?_)
      refine v_iconst C (z := 0) dX6_addItem_43 ?_
      exact (v_iret C hr hl () (by decide) (by decide) rfl trivial dX6_addItem_44)
  ·
    refine v_iload_n C dX6_addItem_7 rfl 1 rfl ?_
    refine v_bipush C (z := 99) dX6_addItem_8 rfl ?_
    refine v_icmp_eq C 23 dX6_addItem_10 (by decide) ⟨by omega, by omega⟩ (b31_lit _ rfl) (fun c_5 => ?_) (fun c_5 => ?_)
    ·
      refine v_aload_n C dX6_addItem_23 rfl 0 rfl ?_
      refine v_get C 0 (kf := 0) rfl rfl (by decide) inX6_addItem_6 lkX6_addItem_76 rfl rfl dX6_addItem_24 ?_
      refine v_bipush C (z := 12) dX6_addItem_27 rfl ?_
      refine v_icmp_ne C 36 dX6_addItem_29 (by decide) ⟨by omega, by omega⟩ (b31_lit _ rfl) (fun c_6 => ?_) (fun c_6 => ?_)
      ·
        exfalso; omega
      ·
        refine v_iconst C (z := 2) dX6_addItem_32 ?_
        refine v_goto C 37 dX6_addItem_33 (by decide) ?_
        refine v_invVI C (As := [.int (iI (2))]) (q0 := 0) (ci := 6) (kX6_fails_p l g (mm := mm) (b1 := b1) (b2 := b2) (b3 := b3) (b4 := b4) (b5 := b5) (b6 := b6) (b7 := b7) (b8 := b8) (b9 := b9) (b10 := b10) (b11 := b11) (b12 := b12) (b13 := b13) (b14 := b14) (b15 := b15) (b16 := b16) (b17 := b17) (kinds := kinds) (tgs := tgs) (first := first) (second := second) (vals := vals) (qs := qs) (hds := hds) (An := An) (qi := qi) (qo := qo) (Tm := Tm) (Nw := Nw) (Kw := Kw) (ni := ni) (bc := bc) (cm := cm) (cn := cn) (qc := qc) (cd := cd) (ris := ris) (q := 2) (by decide)) (cwV 1 C.2.2.2.2.1 gX6_addItem_X6_fails rfl rfl rfl (by decide +kernel) ⟨Nat.le_of_ble_eq_true rfl, Nat.le_of_ble_eq_true rfl⟩) [wMM g mm b1 b2 b3 b4 b5 b6 b7 b8 b9 b10 b11 b12 b13 b14 b15 b16 b17 kinds ni cm first second An An Tm Tm bc hds tgs qc qi qo qs cn vals Nw Nw Kw Kw cd] [0] [] [] (fun _ => [wMM g mm b1 b2 b3 b4 b5 b6 b7 b8 b9 b10 b11 b12 b13 b14 b15 b16 b17 kinds ni cm first second An An Tm Tm bc hds tgs qc qi qo qs cn vals Nw Nw Kw Kw 2]) (fun _ => wMM g mm b1 b2 b3 b4 b5 b6 b7 b8 b9 b10 b11 b12 b13 b14 b15 b16 b17 kinds ni cm first second An An Tm Tm bc hds tgs qc qi qo qs cn vals Nw Nw Kw Kw 2 ++ ([])) rfl rfl rfl (fun _ => rfl) (fun _ => rfl) (fun _ => rfl) (fun _ => rfl) rfl rfl rfl rfl rfl (Nat.le_of_ble_eq_true rfl) dX6_addItem_37 ⟨by decide, by decide⟩ (fun r_8 _ h_7 => ?_)
        subst h_7
        refine v_ifz_eq C 45 dX6_addItem_40 (by decide) (fun h => nomatch h) (fun _ => ?_)
        refine v_iconst C (z := 0) dX6_addItem_43 ?_
        exact (v_iret C hr hl () (by decide) (by decide) rfl trivial dX6_addItem_44)
    ·
      refine v_iload_n C dX6_addItem_13 rfl 1 rfl ?_
      refine v_bipush C (z := 115) dX6_addItem_14 rfl ?_
      refine v_icmp_eq C 23 dX6_addItem_16 (by decide) ⟨by omega, by omega⟩ (b31_lit _ rfl) (fun c_9 => ?_) (fun c_9 => ?_)
      ·
        refine v_aload_n C dX6_addItem_23 rfl 0 rfl ?_
        refine v_get C 0 (kf := 0) rfl rfl (by decide) inX6_addItem_6 lkX6_addItem_76 rfl rfl dX6_addItem_24 ?_
        refine v_bipush C (z := 12) dX6_addItem_27 rfl ?_
        refine v_icmp_ne C 36 dX6_addItem_29 (by decide) ⟨by omega, by omega⟩ (b31_lit _ rfl) (fun c_10 => ?_) (fun c_10 => ?_)
        ·
          exfalso; omega
        ·
          refine v_iconst C (z := 2) dX6_addItem_32 ?_
          refine v_goto C 37 dX6_addItem_33 (by decide) ?_
          refine v_invVI C (As := [.int (iI (2))]) (q0 := 0) (ci := 6) (kX6_fails_p l g (mm := mm) (b1 := b1) (b2 := b2) (b3 := b3) (b4 := b4) (b5 := b5) (b6 := b6) (b7 := b7) (b8 := b8) (b9 := b9) (b10 := b10) (b11 := b11) (b12 := b12) (b13 := b13) (b14 := b14) (b15 := b15) (b16 := b16) (b17 := b17) (kinds := kinds) (tgs := tgs) (first := first) (second := second) (vals := vals) (qs := qs) (hds := hds) (An := An) (qi := qi) (qo := qo) (Tm := Tm) (Nw := Nw) (Kw := Kw) (ni := ni) (bc := bc) (cm := cm) (cn := cn) (qc := qc) (cd := cd) (ris := ris) (q := 2) (by decide)) (cwV 1 C.2.2.2.2.1 gX6_addItem_X6_fails rfl rfl rfl (by decide +kernel) ⟨Nat.le_of_ble_eq_true rfl, Nat.le_of_ble_eq_true rfl⟩) [wMM g mm b1 b2 b3 b4 b5 b6 b7 b8 b9 b10 b11 b12 b13 b14 b15 b16 b17 kinds ni cm first second An An Tm Tm bc hds tgs qc qi qo qs cn vals Nw Nw Kw Kw cd] [0] [] [] (fun _ => [wMM g mm b1 b2 b3 b4 b5 b6 b7 b8 b9 b10 b11 b12 b13 b14 b15 b16 b17 kinds ni cm first second An An Tm Tm bc hds tgs qc qi qo qs cn vals Nw Nw Kw Kw 2]) (fun _ => wMM g mm b1 b2 b3 b4 b5 b6 b7 b8 b9 b10 b11 b12 b13 b14 b15 b16 b17 kinds ni cm first second An An Tm Tm bc hds tgs qc qi qo qs cn vals Nw Nw Kw Kw 2 ++ ([])) rfl rfl rfl (fun _ => rfl) (fun _ => rfl) (fun _ => rfl) (fun _ => rfl) rfl rfl rfl rfl rfl (Nat.le_of_ble_eq_true rfl) dX6_addItem_37 ⟨by decide, by decide⟩ (fun r_12 _ h_11 => ?_)
          subst h_11
          refine v_ifz_eq C 45 dX6_addItem_40 (by decide) (fun h => nomatch h) (fun _ => ?_)
          refine v_iconst C (z := 0) dX6_addItem_43 ?_
          exact (v_iret C hr hl () (by decide) (by decide) rfl trivial dX6_addItem_44)
      ·
        exfalso; omega
theorem inX6_kindOf_6 : ∀ w ∈ u_ws RX6 TX6 23, w ∈ wsX6_kindOf := by decide +kernel
theorem lkX6_kindOf_7 : Cond.fieldLink RX6 7 "MergeAtelierModel" "kinds" "[C" ∈ wsX6_kindOf := by decide +kernel
set_option maxHeartbeats 4000000 in
set_option maxRecDepth 100000 in
theorem kX6_kindOf_ok (l : Launch) (g : vG) {mm b1 b2 b3 b4 b5 b6 b7 b8 b9 b10 b11 b12 b13 b14 b15 b16 b17 : Nat} {kinds tgs first second vals qs : Nat → Int} {hds An qi qo Tm Nw Kw ris : Nat → Nat} {ni bc cm cn qc cd : Nat} {x0 : Nat} (hI : MI vals ris cn kinds tgs first second qs hds An qi qo Tm ni bc cm qc) (hx0 : x0 < ni)  : mI l g yX6_kindOf wsX6_kindOf ({ frames := 2, cells := 0, slots := 0, locals := 43 }) [.ref (mm), .int (iI ((x0 : Nat) : Int))] (wMM g mm b1 b2 b3 b4 b5 b6 b7 b8 b9 b10 b11 b12 b13 b14 b15 b16 b17 kinds ni cm first second An An Tm Tm bc hds tgs qc qi qo qs cn vals Nw Nw Kw Kw cd ++ ([])) (fun _ : Unit => wMM g mm b1 b2 b3 b4 b5 b6 b7 b8 b9 b10 b11 b12 b13 b14 b15 b16 b17 kinds ni cm first second An An Tm Tm bc hds tgs qc qi qo qs cn vals Nw Nw Kw Kw 0 ++ ([])) (fun v _ => v = iI (kinds (x0))) 0 0 := by
  refine mI_of (cc := cX6_kindOf) (maxL := 2) (ret := (some .char)) (own := RX6) (by decide) rfl rfl (Nat.le_of_ble_eq_true rfl) ?_
  intro p e s m args below meth c A C hr hl hin
  obtain ⟨hni, hbc1, hbc, hcm1, hcm, hcn1, hnm, hqc, hhd, htg, hf, hs, hfc, hsc, hAn, hTm, hao, hpal, hqb, hqi, htk, hkd⟩ := id hI
  refine v_aload_n C dX6_kindOf_0 rfl 0 rfl ?_
  refine v_aload_n C dX6_kindOf_1 rfl 0 rfl ?_
  refine v_iload_n C dX6_kindOf_2 rfl 1 rfl ?_
  refine v_invVI C (As := [.int (iI ((x0 : Nat) : Int))]) (q0 := 0) (ci := 6) (kX6_isNoItem_in l g (mm := mm) (b1 := b1) (b2 := b2) (b3 := b3) (b4 := b4) (b5 := b5) (b6 := b6) (b7 := b7) (b8 := b8) (b9 := b9) (b10 := b10) (b11 := b11) (b12 := b12) (b13 := b13) (b14 := b14) (b15 := b15) (b16 := b16) (b17 := b17) (kinds := kinds) (tgs := tgs) (first := first) (second := second) (vals := vals) (qs := qs) (hds := hds) (An := An) (qi := qi) (qo := qo) (Tm := Tm) (Nw := Nw) (Kw := Kw) (ni := ni) (bc := bc) (cm := cm) (cn := cn) (qc := qc) (cd := cd) (ris := ris) (i0 := x0) (by omega) (by omega)) (cwV 1 C.2.2.2.2.1 gX6_kindOf_X6_isNoItem rfl rfl rfl (by decide +kernel) ⟨Nat.le_of_ble_eq_true rfl, Nat.le_of_ble_eq_true rfl⟩) [wMM g mm b1 b2 b3 b4 b5 b6 b7 b8 b9 b10 b11 b12 b13 b14 b15 b16 b17 kinds ni cm first second An An Tm Tm bc hds tgs qc qi qo qs cn vals Nw Nw Kw Kw cd] [0] [] [.ref (mm)] (fun _ => [wMM g mm b1 b2 b3 b4 b5 b6 b7 b8 b9 b10 b11 b12 b13 b14 b15 b16 b17 kinds ni cm first second An An Tm Tm bc hds tgs qc qi qo qs cn vals Nw Nw Kw Kw cd]) (fun _ => wMM g mm b1 b2 b3 b4 b5 b6 b7 b8 b9 b10 b11 b12 b13 b14 b15 b16 b17 kinds ni cm first second An An Tm Tm bc hds tgs qc qi qo qs cn vals Nw Nw Kw Kw cd ++ ([])) rfl rfl rfl (fun _ => rfl) (fun _ => rfl) (fun _ => rfl) (fun _ => rfl) rfl rfl rfl rfl rfl (Nat.le_of_ble_eq_true rfl) dX6_kindOf_3 ⟨by decide, by decide⟩ (fun r_2 _ h_1 => ?_)
  subst h_1
  refine v_ifz_eq C 13 dX6_kindOf_6 (by decide) (fun _ => ?_) (fun h => nomatch h) 
  refine v_iconst C (z := 0) dX6_kindOf_13 ?_
  refine v_invVI C (As := [.int (iI (0))]) (q0 := 0) (ci := 6) (kX6_fails_z l g (mm := mm) (b1 := b1) (b2 := b2) (b3 := b3) (b4 := b4) (b5 := b5) (b6 := b6) (b7 := b7) (b8 := b8) (b9 := b9) (b10 := b10) (b11 := b11) (b12 := b12) (b13 := b13) (b14 := b14) (b15 := b15) (b16 := b16) (b17 := b17) (kinds := kinds) (tgs := tgs) (first := first) (second := second) (vals := vals) (qs := qs) (hds := hds) (An := An) (qi := qi) (qo := qo) (Tm := Tm) (Nw := Nw) (Kw := Kw) (ni := ni) (bc := bc) (cm := cm) (cn := cn) (qc := qc) (cd := cd) (ris := ris)  ) (cwV 1 C.2.2.2.2.1 gX6_kindOf_X6_fails rfl rfl rfl (by decide +kernel) ⟨Nat.le_of_ble_eq_true rfl, Nat.le_of_ble_eq_true rfl⟩) [wMM g mm b1 b2 b3 b4 b5 b6 b7 b8 b9 b10 b11 b12 b13 b14 b15 b16 b17 kinds ni cm first second An An Tm Tm bc hds tgs qc qi qo qs cn vals Nw Nw Kw Kw cd] [0] [] [] (fun _ => [wMM g mm b1 b2 b3 b4 b5 b6 b7 b8 b9 b10 b11 b12 b13 b14 b15 b16 b17 kinds ni cm first second An An Tm Tm bc hds tgs qc qi qo qs cn vals Nw Nw Kw Kw 0]) (fun _ => wMM g mm b1 b2 b3 b4 b5 b6 b7 b8 b9 b10 b11 b12 b13 b14 b15 b16 b17 kinds ni cm first second An An Tm Tm bc hds tgs qc qi qo qs cn vals Nw Nw Kw Kw 0 ++ ([])) rfl rfl rfl (fun _ => rfl) (fun _ => rfl) (fun _ => rfl) (fun _ => rfl) rfl rfl rfl rfl rfl (Nat.le_of_ble_eq_true rfl) dX6_kindOf_14 ⟨by decide, by decide⟩ (fun r_4 _ h_3 => ?_)
  subst h_3
  refine v_ifz_eq C 25 dX6_kindOf_17 (by decide) (fun _ => ?_) (fun h => nomatch h) 
  refine v_aload_n C dX6_kindOf_25 rfl 0 rfl ?_
  refine v_get C 0 (kf := 1) rfl rfl (by decide) inX6_kindOf_6 lkX6_kindOf_7 rfl rfl dX6_kindOf_26 ?_
  refine v_iload_n C dX6_kindOf_29 rfl 1 rfl ?_
  refine v_cald C 1 (x0) rfl rfl (by omega) (by decide) dX6_kindOf_30 ?_
  exact (v_zret C hr hl () (chr_nar (hkd x0).1 (hkd x0).2) (by decide) (by decide) rfl rfl dX6_kindOf_31)
set_option maxHeartbeats 4000000 in
set_option maxRecDepth 100000 in
theorem kX6_kindOf_a (l : Launch) (g : vG) {mm b1 b2 b3 b4 b5 b6 b7 b8 b9 b10 b11 b12 b13 b14 b15 b16 b17 : Nat} {kinds tgs first second vals qs : Nat → Int} {hds An qi qo Tm Nw Kw ris : Nat → Nat} {ni bc cm cn qc cd : Nat} {x : Int} (hI : MI vals ris cn kinds tgs first second qs hds An qi qo Tm ni bc cm qc) (hx : b31 x) (hqx : ¬ (0 ≤ x ∧ x < ((ni : Nat) : Int)))  : mI l g yX6_kindOf wsX6_kindOf ({ frames := 2, cells := 0, slots := 0, locals := 43 }) [.ref (mm), .int (iI (x))] (wMM g mm b1 b2 b3 b4 b5 b6 b7 b8 b9 b10 b11 b12 b13 b14 b15 b16 b17 kinds ni cm first second An An Tm Tm bc hds tgs qc qi qo qs cn vals Nw Nw Kw Kw cd ++ ([])) (fun _ : Unit => wMM g mm b1 b2 b3 b4 b5 b6 b7 b8 b9 b10 b11 b12 b13 b14 b15 b16 b17 kinds ni cm first second An An Tm Tm bc hds tgs qc qi qo qs cn vals Nw Nw Kw Kw 1 ++ ([])) (fun _ _ => True) 0 0 := by
  refine mI_of (cc := cX6_kindOf) (maxL := 2) (ret := (some .char)) (own := RX6) (by decide) rfl rfl (Nat.le_of_ble_eq_true rfl) ?_
  intro p e s m args below meth c A C hr hl hin
  obtain ⟨hni, hbc1, hbc, hcm1, hcm, hcn1, hnm, hqc, hhd, htg, hf, hs, hfc, hsc, hAn, hTm, hao, hpal, hqb, hqi, htk, hkd⟩ := id hI
  have hx1 := hx.1
  have hx2 := hx.2
  refine v_aload_n C dX6_kindOf_0 rfl 0 rfl ?_
  refine v_aload_n C dX6_kindOf_1 rfl 0 rfl ?_
  refine v_iload_n C dX6_kindOf_2 rfl 1 rfl ?_
  refine v_invVI C (As := [.int (iI (x))]) (q0 := 0) (ci := 6) (kX6_isNoItem_out l g (mm := mm) (b1 := b1) (b2 := b2) (b3 := b3) (b4 := b4) (b5 := b5) (b6 := b6) (b7 := b7) (b8 := b8) (b9 := b9) (b10 := b10) (b11 := b11) (b12 := b12) (b13 := b13) (b14 := b14) (b15 := b15) (b16 := b16) (b17 := b17) (kinds := kinds) (tgs := tgs) (first := first) (second := second) (vals := vals) (qs := qs) (hds := hds) (An := An) (qi := qi) (qo := qo) (Tm := Tm) (Nw := Nw) (Kw := Kw) (ni := ni) (bc := bc) (cm := cm) (cn := cn) (qc := qc) (cd := cd) (ris := ris) (x := x) ⟨by omega, by omega⟩ (by omega) (by omega)) (cwV 1 C.2.2.2.2.1 gX6_kindOf_X6_isNoItem rfl rfl rfl (by decide +kernel) ⟨Nat.le_of_ble_eq_true rfl, Nat.le_of_ble_eq_true rfl⟩) [wMM g mm b1 b2 b3 b4 b5 b6 b7 b8 b9 b10 b11 b12 b13 b14 b15 b16 b17 kinds ni cm first second An An Tm Tm bc hds tgs qc qi qo qs cn vals Nw Nw Kw Kw cd] [0] [] [.ref (mm)] (fun _ => [wMM g mm b1 b2 b3 b4 b5 b6 b7 b8 b9 b10 b11 b12 b13 b14 b15 b16 b17 kinds ni cm first second An An Tm Tm bc hds tgs qc qi qo qs cn vals Nw Nw Kw Kw cd]) (fun _ => wMM g mm b1 b2 b3 b4 b5 b6 b7 b8 b9 b10 b11 b12 b13 b14 b15 b16 b17 kinds ni cm first second An An Tm Tm bc hds tgs qc qi qo qs cn vals Nw Nw Kw Kw cd ++ ([])) rfl rfl rfl (fun _ => rfl) (fun _ => rfl) (fun _ => rfl) (fun _ => rfl) rfl rfl rfl rfl rfl (Nat.le_of_ble_eq_true rfl) dX6_kindOf_3 ⟨by decide, by decide⟩ (fun r_2 _ h_1 => ?_)
  subst h_1
  refine v_ifz_eq C 13 dX6_kindOf_6 (by decide) (fun h => nomatch h) (fun _ => ?_)
  refine v_iconst C (z := 1) dX6_kindOf_9 ?_
  refine v_goto C 14 dX6_kindOf_10 (by decide) ?_
  refine v_invVI C (As := [.int (iI (1))]) (q0 := 0) (ci := 6) (kX6_fails_p l g (mm := mm) (b1 := b1) (b2 := b2) (b3 := b3) (b4 := b4) (b5 := b5) (b6 := b6) (b7 := b7) (b8 := b8) (b9 := b9) (b10 := b10) (b11 := b11) (b12 := b12) (b13 := b13) (b14 := b14) (b15 := b15) (b16 := b16) (b17 := b17) (kinds := kinds) (tgs := tgs) (first := first) (second := second) (vals := vals) (qs := qs) (hds := hds) (An := An) (qi := qi) (qo := qo) (Tm := Tm) (Nw := Nw) (Kw := Kw) (ni := ni) (bc := bc) (cm := cm) (cn := cn) (qc := qc) (cd := cd) (ris := ris) (q := 1) (by decide)) (cwV 1 C.2.2.2.2.1 gX6_kindOf_X6_fails rfl rfl rfl (by decide +kernel) ⟨Nat.le_of_ble_eq_true rfl, Nat.le_of_ble_eq_true rfl⟩) [wMM g mm b1 b2 b3 b4 b5 b6 b7 b8 b9 b10 b11 b12 b13 b14 b15 b16 b17 kinds ni cm first second An An Tm Tm bc hds tgs qc qi qo qs cn vals Nw Nw Kw Kw cd] [0] [] [] (fun _ => [wMM g mm b1 b2 b3 b4 b5 b6 b7 b8 b9 b10 b11 b12 b13 b14 b15 b16 b17 kinds ni cm first second An An Tm Tm bc hds tgs qc qi qo qs cn vals Nw Nw Kw Kw 1]) (fun _ => wMM g mm b1 b2 b3 b4 b5 b6 b7 b8 b9 b10 b11 b12 b13 b14 b15 b16 b17 kinds ni cm first second An An Tm Tm bc hds tgs qc qi qo qs cn vals Nw Nw Kw Kw 1 ++ ([])) rfl rfl rfl (fun _ => rfl) (fun _ => rfl) (fun _ => rfl) (fun _ => rfl) rfl rfl rfl rfl rfl (Nat.le_of_ble_eq_true rfl) dX6_kindOf_14 ⟨by decide, by decide⟩ (fun r_4 _ h_3 => ?_)
  subst h_3
  refine v_ifz_eq C 25 dX6_kindOf_17 (by decide) (fun h => nomatch h) (fun _ => ?_)
  refine v_bipush C (z := 32) dX6_kindOf_20 rfl ?_
  refine v_goto C 31 dX6_kindOf_22 (by decide) ?_
  exact (v_zret C hr hl () (chr_nar (z := 32) (by decide) (by decide)) (by decide) (by decide) rfl trivial dX6_kindOf_31)
theorem inX6_addBranch_6 : ∀ w ∈ u_ws RX6 TX6 23, w ∈ wsX6_addBranch := by decide +kernel
theorem lkX6_addBranch_37 : Cond.fieldLink RX6 37 "MergeAtelierModel" "branches" "I" ∈ wsX6_addBranch := by decide +kernel
theorem lkX6_addBranch_40 : Cond.fieldLink RX6 40 "MergeAtelierModel" "heads" "[I" ∈ wsX6_addBranch := by decide +kernel
set_option maxHeartbeats 4000000 in
set_option maxRecDepth 100000 in
theorem kX6_addBranch_ok (l : Launch) (g : vG) {mm b1 b2 b3 b4 b5 b6 b7 b8 b9 b10 b11 b12 b13 b14 b15 b16 b17 : Nat} {kinds tgs first second vals qs : Nat → Int} {hds An qi qo Tm Nw Kw ris : Nat → Nat} {ni bc cm cn qc cd : Nat} {x0 : Nat} (hI : MI vals ris cn kinds tgs first second qs hds An qi qo Tm ni bc cm qc) (hx0 : x0 < cm) (hn : bc < 5) : mI l g yX6_addBranch wsX6_addBranch ({ frames := 3, cells := 0, slots := 0, locals := 64 }) [.ref (mm), .int (iI ((x0 : Nat) : Int))] (wMM g mm b1 b2 b3 b4 b5 b6 b7 b8 b9 b10 b11 b12 b13 b14 b15 b16 b17 kinds ni cm first second An An Tm Tm bc hds tgs qc qi qo qs cn vals Nw Nw Kw Kw cd ++ ([])) (fun _ : Unit => wMM g mm b1 b2 b3 b4 b5 b6 b7 b8 b9 b10 b11 b12 b13 b14 b15 b16 b17 kinds ni cm first second An An Tm Tm (bc + 1) (updN hds (bc) (x0)) tgs qc qi qo qs cn vals Nw Nw Kw Kw 0 ++ ([])) (fun v _ => v = iI ((bc : Nat) : Int)) 0 0 := by
  refine mI_of (cc := cX6_addBranch) (maxL := 2) (ret := (some .int)) (own := RX6) (by decide) rfl rfl (Nat.le_of_ble_eq_true rfl) ?_
  intro p e s m args below meth c A C hr hl hin
  obtain ⟨hni, hbc1, hbc, hcm1, hcm, hcn1, hnm, hqc, hhd, htg, hf, hs, hfc, hsc, hAn, hTm, hao, hpal, hqb, hqi, htk, hkd⟩ := id hI
  refine v_aload_n C dX6_addBranch_0 rfl 0 rfl ?_
  refine v_iload_n C dX6_addBranch_1 rfl 1 rfl ?_
  refine v_invVI C (As := [.int (iI ((x0 : Nat) : Int))]) (q0 := 0) (ci := 6) (kX6_isNone_in l g (mm := mm) (b1 := b1) (b2 := b2) (b3 := b3) (b4 := b4) (b5 := b5) (b6 := b6) (b7 := b7) (b8 := b8) (b9 := b9) (b10 := b10) (b11 := b11) (b12 := b12) (b13 := b13) (b14 := b14) (b15 := b15) (b16 := b16) (b17 := b17) (kinds := kinds) (tgs := tgs) (first := first) (second := second) (vals := vals) (qs := qs) (hds := hds) (An := An) (qi := qi) (qo := qo) (Tm := Tm) (Nw := Nw) (Kw := Kw) (ni := ni) (bc := bc) (cm := cm) (cn := cn) (qc := qc) (cd := cd) (ris := ris) (i0 := x0) (by omega) (by omega)) (cwV 1 C.2.2.2.2.1 gX6_addBranch_X6_isNone rfl rfl rfl (by decide +kernel) ⟨Nat.le_of_ble_eq_true rfl, Nat.le_of_ble_eq_true rfl⟩) [wMM g mm b1 b2 b3 b4 b5 b6 b7 b8 b9 b10 b11 b12 b13 b14 b15 b16 b17 kinds ni cm first second An An Tm Tm bc hds tgs qc qi qo qs cn vals Nw Nw Kw Kw cd] [0] [] [] (fun _ => [wMM g mm b1 b2 b3 b4 b5 b6 b7 b8 b9 b10 b11 b12 b13 b14 b15 b16 b17 kinds ni cm first second An An Tm Tm bc hds tgs qc qi qo qs cn vals Nw Nw Kw Kw 0]) (fun _ => wMM g mm b1 b2 b3 b4 b5 b6 b7 b8 b9 b10 b11 b12 b13 b14 b15 b16 b17 kinds ni cm first second An An Tm Tm bc hds tgs qc qi qo qs cn vals Nw Nw Kw Kw 0 ++ ([])) rfl rfl rfl (fun _ => rfl) (fun _ => rfl) (fun _ => rfl) (fun _ => rfl) rfl rfl rfl rfl rfl (Nat.le_of_ble_eq_true rfl) dX6_addBranch_2 ⟨by decide, by decide⟩ (fun r_2 _ h_1 => ?_)
  subst h_1
  refine v_ifz_ne C 28 dX6_addBranch_5 (by decide) (fun h => nomatch h) (fun _ => ?_)
  refine v_aload_n C dX6_addBranch_8 rfl 0 rfl ?_
  refine v_aload_n C dX6_addBranch_9 rfl 0 rfl ?_
  refine v_get C 0 (kf := 9) rfl rfl (by decide) inX6_addBranch_6 lkX6_addBranch_37 rfl rfl dX6_addBranch_10 ?_
  refine v_iconst C (z := 5) dX6_addBranch_13 ?_
  refine v_icmp_ne C 21 dX6_addBranch_14 (by decide) ⟨by omega, by omega⟩ (b31_lit _ rfl) (fun c_3 => ?_) (fun c_3 => ?_)
  ·
    refine v_iconst C (z := 0) dX6_addBranch_21 ?_
    refine v_invVI C (As := [.int (iI (0))]) (q0 := 0) (ci := 6) (kX6_fails_z l g (mm := mm) (b1 := b1) (b2 := b2) (b3 := b3) (b4 := b4) (b5 := b5) (b6 := b6) (b7 := b7) (b8 := b8) (b9 := b9) (b10 := b10) (b11 := b11) (b12 := b12) (b13 := b13) (b14 := b14) (b15 := b15) (b16 := b16) (b17 := b17) (kinds := kinds) (tgs := tgs) (first := first) (second := second) (vals := vals) (qs := qs) (hds := hds) (An := An) (qi := qi) (qo := qo) (Tm := Tm) (Nw := Nw) (Kw := Kw) (ni := ni) (bc := bc) (cm := cm) (cn := cn) (qc := qc) (cd := 0) (ris := ris)  ) (cwV 1 C.2.2.2.2.1 gX6_addBranch_X6_fails rfl rfl rfl (by decide +kernel) ⟨Nat.le_of_ble_eq_true rfl, Nat.le_of_ble_eq_true rfl⟩) [wMM g mm b1 b2 b3 b4 b5 b6 b7 b8 b9 b10 b11 b12 b13 b14 b15 b16 b17 kinds ni cm first second An An Tm Tm bc hds tgs qc qi qo qs cn vals Nw Nw Kw Kw 0] [0] [] [] (fun _ => [wMM g mm b1 b2 b3 b4 b5 b6 b7 b8 b9 b10 b11 b12 b13 b14 b15 b16 b17 kinds ni cm first second An An Tm Tm bc hds tgs qc qi qo qs cn vals Nw Nw Kw Kw 0]) (fun _ => wMM g mm b1 b2 b3 b4 b5 b6 b7 b8 b9 b10 b11 b12 b13 b14 b15 b16 b17 kinds ni cm first second An An Tm Tm bc hds tgs qc qi qo qs cn vals Nw Nw Kw Kw 0 ++ ([])) rfl rfl rfl (fun _ => rfl) (fun _ => rfl) (fun _ => rfl) (fun _ => rfl) rfl rfl rfl rfl rfl (Nat.le_of_ble_eq_true rfl) dX6_addBranch_22 ⟨by decide, by decide⟩ (fun r_5 _ h_4 => ?_)
    subst h_4
    refine v_ifz_eq C 30 dX6_addBranch_25 (by decide) (fun _ => ?_) (fun h => nomatch h) 
    refine v_aload_n C dX6_addBranch_30 rfl 0 rfl ?_
    refine v_get C 0 (kf := 10) rfl rfl (by decide) inX6_addBranch_6 lkX6_addBranch_40 rfl rfl dX6_addBranch_31 ?_
    refine v_aload_n C dX6_addBranch_34 rfl 0 rfl ?_
    refine v_get C 0 (kf := 9) rfl rfl (by decide) inX6_addBranch_6 lkX6_addBranch_37 rfl rfl dX6_addBranch_35 ?_
    refine v_iload_n C dX6_addBranch_38 rfl 1 rfl ?_
    refine v_iastn C 8 (bc) (wMM g mm b1 b2 b3 b4 b5 b6 b7 b8 b9 b10 b11 b12 b13 b14 b15 b16 b17 kinds ni cm first second An An Tm Tm bc (updN hds (bc) (x0)) tgs qc qi qo qs cn vals Nw Nw Kw Kw 0 ++ ([])) rfl rfl (by omega) (by decide) dX6_addBranch_39 rfl ?_
    refine v_aload_n C dX6_addBranch_40 rfl 0 rfl ?_
    refine v_dup C dX6_addBranch_41 rfl ?_
    refine v_get C 0 (kf := 9) rfl rfl (by decide) inX6_addBranch_6 lkX6_addBranch_37 rfl rfl dX6_addBranch_42 ?_
    refine v_iconst C (z := 1) dX6_addBranch_45 ?_
    refine v_iadd C dX6_addBranch_46 ?_
    rw [show (((bc : Nat) : Int)) + 1 = ((bc + 1 : Nat) : Int) from rfl]
    refine v_put C 0 (kf := 9) (wMM g mm b1 b2 b3 b4 b5 b6 b7 b8 b9 b10 b11 b12 b13 b14 b15 b16 b17 kinds ni cm first second An An Tm Tm (bc + 1) (updN hds (bc) (x0)) tgs qc qi qo qs cn vals Nw Nw Kw Kw 0 ++ ([])) rfl rfl (by decide) inX6_addBranch_6 lkX6_addBranch_37 rfl tyX6_ok nmX6 rfl rfl rfl (Nat.le_of_ble_eq_true rfl) dX6_addBranch_47 rfl ?_
    refine v_aload_n C dX6_addBranch_50 rfl 0 rfl ?_
    refine v_get C 0 (kf := 9) rfl rfl (by decide) inX6_addBranch_6 lkX6_addBranch_37 rfl rfl dX6_addBranch_51 ?_
    refine v_iconst C (z := 1) dX6_addBranch_54 ?_
    refine v_isub C dX6_addBranch_55 ?_
    exact (v_iret C hr hl () (by decide) (by decide) rfl (congrArg iI (by omega)) dX6_addBranch_56)
  ·
    exfalso; omega
set_option maxHeartbeats 4000000 in
set_option maxRecDepth 100000 in
theorem kX6_addBranch_a (l : Launch) (g : vG) {mm b1 b2 b3 b4 b5 b6 b7 b8 b9 b10 b11 b12 b13 b14 b15 b16 b17 : Nat} {kinds tgs first second vals qs : Nat → Int} {hds An qi qo Tm Nw Kw ris : Nat → Nat} {ni bc cm cn qc cd : Nat} {x : Int} (hI : MI vals ris cn kinds tgs first second qs hds An qi qo Tm ni bc cm qc) (hx : b31 x) (hqx : ¬ (0 ≤ x ∧ x < ((cm : Nat) : Int)))  : mI l g yX6_addBranch wsX6_addBranch ({ frames := 3, cells := 0, slots := 0, locals := 64 }) [.ref (mm), .int (iI (x))] (wMM g mm b1 b2 b3 b4 b5 b6 b7 b8 b9 b10 b11 b12 b13 b14 b15 b16 b17 kinds ni cm first second An An Tm Tm bc hds tgs qc qi qo qs cn vals Nw Nw Kw Kw cd ++ ([])) (fun _ : Unit => wMM g mm b1 b2 b3 b4 b5 b6 b7 b8 b9 b10 b11 b12 b13 b14 b15 b16 b17 kinds ni cm first second An An Tm Tm bc hds tgs qc qi qo qs cn vals Nw Nw Kw Kw 1 ++ ([])) (fun _ _ => True) 0 0 := by
  refine mI_of (cc := cX6_addBranch) (maxL := 2) (ret := (some .int)) (own := RX6) (by decide) rfl rfl (Nat.le_of_ble_eq_true rfl) ?_
  intro p e s m args below meth c A C hr hl hin
  obtain ⟨hni, hbc1, hbc, hcm1, hcm, hcn1, hnm, hqc, hhd, htg, hf, hs, hfc, hsc, hAn, hTm, hao, hpal, hqb, hqi, htk, hkd⟩ := id hI
  have hx1 := hx.1
  have hx2 := hx.2
  refine v_aload_n C dX6_addBranch_0 rfl 0 rfl ?_
  refine v_iload_n C dX6_addBranch_1 rfl 1 rfl ?_
  refine v_invVI C (As := [.int (iI (x))]) (q0 := 0) (ci := 6) (kX6_isNone_out l g (mm := mm) (b1 := b1) (b2 := b2) (b3 := b3) (b4 := b4) (b5 := b5) (b6 := b6) (b7 := b7) (b8 := b8) (b9 := b9) (b10 := b10) (b11 := b11) (b12 := b12) (b13 := b13) (b14 := b14) (b15 := b15) (b16 := b16) (b17 := b17) (kinds := kinds) (tgs := tgs) (first := first) (second := second) (vals := vals) (qs := qs) (hds := hds) (An := An) (qi := qi) (qo := qo) (Tm := Tm) (Nw := Nw) (Kw := Kw) (ni := ni) (bc := bc) (cm := cm) (cn := cn) (qc := qc) (cd := cd) (ris := ris) (x := x) ⟨by omega, by omega⟩ (by omega) (by omega)) (cwV 1 C.2.2.2.2.1 gX6_addBranch_X6_isNone rfl rfl rfl (by decide +kernel) ⟨Nat.le_of_ble_eq_true rfl, Nat.le_of_ble_eq_true rfl⟩) [wMM g mm b1 b2 b3 b4 b5 b6 b7 b8 b9 b10 b11 b12 b13 b14 b15 b16 b17 kinds ni cm first second An An Tm Tm bc hds tgs qc qi qo qs cn vals Nw Nw Kw Kw cd] [0] [] [] (fun _ => [wMM g mm b1 b2 b3 b4 b5 b6 b7 b8 b9 b10 b11 b12 b13 b14 b15 b16 b17 kinds ni cm first second An An Tm Tm bc hds tgs qc qi qo qs cn vals Nw Nw Kw Kw 1]) (fun _ => wMM g mm b1 b2 b3 b4 b5 b6 b7 b8 b9 b10 b11 b12 b13 b14 b15 b16 b17 kinds ni cm first second An An Tm Tm bc hds tgs qc qi qo qs cn vals Nw Nw Kw Kw 1 ++ ([])) rfl rfl rfl (fun _ => rfl) (fun _ => rfl) (fun _ => rfl) (fun _ => rfl) rfl rfl rfl rfl rfl (Nat.le_of_ble_eq_true rfl) dX6_addBranch_2 ⟨by decide, by decide⟩ (fun r_2 _ h_1 => ?_)
  subst h_1
  refine v_ifz_ne C 28 dX6_addBranch_5 (by decide) (fun _ => ?_) (fun h => nomatch h) 
  refine v_iconst C (z := 0) dX6_addBranch_28 ?_
  exact (v_iret C hr hl () (by decide) (by decide) rfl trivial dX6_addBranch_29)
set_option maxHeartbeats 4000000 in
set_option maxRecDepth 100000 in
theorem kX6_addBranch_2 (l : Launch) (g : vG) {mm b1 b2 b3 b4 b5 b6 b7 b8 b9 b10 b11 b12 b13 b14 b15 b16 b17 : Nat} {kinds tgs first second vals qs : Nat → Int} {hds An qi qo Tm Nw Kw ris : Nat → Nat} {ni bc cm cn qc cd : Nat} {x0 : Nat} (hI : MI vals ris cn kinds tgs first second qs hds An qi qo Tm ni bc cm qc) (hx0 : x0 < cm) (hn : bc = 5) : mI l g yX6_addBranch wsX6_addBranch ({ frames := 3, cells := 0, slots := 0, locals := 64 }) [.ref (mm), .int (iI ((x0 : Nat) : Int))] (wMM g mm b1 b2 b3 b4 b5 b6 b7 b8 b9 b10 b11 b12 b13 b14 b15 b16 b17 kinds ni cm first second An An Tm Tm bc hds tgs qc qi qo qs cn vals Nw Nw Kw Kw cd ++ ([])) (fun _ : Unit => wMM g mm b1 b2 b3 b4 b5 b6 b7 b8 b9 b10 b11 b12 b13 b14 b15 b16 b17 kinds ni cm first second An An Tm Tm bc hds tgs qc qi qo qs cn vals Nw Nw Kw Kw 2 ++ ([])) (fun _ _ => True) 0 0 := by
  refine mI_of (cc := cX6_addBranch) (maxL := 2) (ret := (some .int)) (own := RX6) (by decide) rfl rfl (Nat.le_of_ble_eq_true rfl) ?_
  intro p e s m args below meth c A C hr hl hin
  obtain ⟨hni, hbc1, hbc, hcm1, hcm, hcn1, hnm, hqc, hhd, htg, hf, hs, hfc, hsc, hAn, hTm, hao, hpal, hqb, hqi, htk, hkd⟩ := id hI
  refine v_aload_n C dX6_addBranch_0 rfl 0 rfl ?_
  refine v_iload_n C dX6_addBranch_1 rfl 1 rfl ?_
  refine v_invVI C (As := [.int (iI ((x0 : Nat) : Int))]) (q0 := 0) (ci := 6) (kX6_isNone_in l g (mm := mm) (b1 := b1) (b2 := b2) (b3 := b3) (b4 := b4) (b5 := b5) (b6 := b6) (b7 := b7) (b8 := b8) (b9 := b9) (b10 := b10) (b11 := b11) (b12 := b12) (b13 := b13) (b14 := b14) (b15 := b15) (b16 := b16) (b17 := b17) (kinds := kinds) (tgs := tgs) (first := first) (second := second) (vals := vals) (qs := qs) (hds := hds) (An := An) (qi := qi) (qo := qo) (Tm := Tm) (Nw := Nw) (Kw := Kw) (ni := ni) (bc := bc) (cm := cm) (cn := cn) (qc := qc) (cd := cd) (ris := ris) (i0 := x0) (by omega) (by omega)) (cwV 1 C.2.2.2.2.1 gX6_addBranch_X6_isNone rfl rfl rfl (by decide +kernel) ⟨Nat.le_of_ble_eq_true rfl, Nat.le_of_ble_eq_true rfl⟩) [wMM g mm b1 b2 b3 b4 b5 b6 b7 b8 b9 b10 b11 b12 b13 b14 b15 b16 b17 kinds ni cm first second An An Tm Tm bc hds tgs qc qi qo qs cn vals Nw Nw Kw Kw cd] [0] [] [] (fun _ => [wMM g mm b1 b2 b3 b4 b5 b6 b7 b8 b9 b10 b11 b12 b13 b14 b15 b16 b17 kinds ni cm first second An An Tm Tm bc hds tgs qc qi qo qs cn vals Nw Nw Kw Kw 0]) (fun _ => wMM g mm b1 b2 b3 b4 b5 b6 b7 b8 b9 b10 b11 b12 b13 b14 b15 b16 b17 kinds ni cm first second An An Tm Tm bc hds tgs qc qi qo qs cn vals Nw Nw Kw Kw 0 ++ ([])) rfl rfl rfl (fun _ => rfl) (fun _ => rfl) (fun _ => rfl) (fun _ => rfl) rfl rfl rfl rfl rfl (Nat.le_of_ble_eq_true rfl) dX6_addBranch_2 ⟨by decide, by decide⟩ (fun r_2 _ h_1 => ?_)
  subst h_1
  refine v_ifz_ne C 28 dX6_addBranch_5 (by decide) (fun h => nomatch h) (fun _ => ?_)
  refine v_aload_n C dX6_addBranch_8 rfl 0 rfl ?_
  refine v_aload_n C dX6_addBranch_9 rfl 0 rfl ?_
  refine v_get C 0 (kf := 9) rfl rfl (by decide) inX6_addBranch_6 lkX6_addBranch_37 rfl rfl dX6_addBranch_10 ?_
  refine v_iconst C (z := 5) dX6_addBranch_13 ?_
  refine v_icmp_ne C 21 dX6_addBranch_14 (by decide) ⟨by omega, by omega⟩ (b31_lit _ rfl) (fun c_3 => ?_) (fun c_3 => ?_)
  ·
    exfalso; omega
  ·
    refine v_iconst C (z := 2) dX6_addBranch_17 ?_
    refine v_goto C 22 dX6_addBranch_18 (by decide) ?_
    refine v_invVI C (As := [.int (iI (2))]) (q0 := 0) (ci := 6) (kX6_fails_p l g (mm := mm) (b1 := b1) (b2 := b2) (b3 := b3) (b4 := b4) (b5 := b5) (b6 := b6) (b7 := b7) (b8 := b8) (b9 := b9) (b10 := b10) (b11 := b11) (b12 := b12) (b13 := b13) (b14 := b14) (b15 := b15) (b16 := b16) (b17 := b17) (kinds := kinds) (tgs := tgs) (first := first) (second := second) (vals := vals) (qs := qs) (hds := hds) (An := An) (qi := qi) (qo := qo) (Tm := Tm) (Nw := Nw) (Kw := Kw) (ni := ni) (bc := bc) (cm := cm) (cn := cn) (qc := qc) (cd := 0) (ris := ris) (q := 2) (by decide)) (cwV 1 C.2.2.2.2.1 gX6_addBranch_X6_fails rfl rfl rfl (by decide +kernel) ⟨Nat.le_of_ble_eq_true rfl, Nat.le_of_ble_eq_true rfl⟩) [wMM g mm b1 b2 b3 b4 b5 b6 b7 b8 b9 b10 b11 b12 b13 b14 b15 b16 b17 kinds ni cm first second An An Tm Tm bc hds tgs qc qi qo qs cn vals Nw Nw Kw Kw 0] [0] [] [] (fun _ => [wMM g mm b1 b2 b3 b4 b5 b6 b7 b8 b9 b10 b11 b12 b13 b14 b15 b16 b17 kinds ni cm first second An An Tm Tm bc hds tgs qc qi qo qs cn vals Nw Nw Kw Kw 2]) (fun _ => wMM g mm b1 b2 b3 b4 b5 b6 b7 b8 b9 b10 b11 b12 b13 b14 b15 b16 b17 kinds ni cm first second An An Tm Tm bc hds tgs qc qi qo qs cn vals Nw Nw Kw Kw 2 ++ ([])) rfl rfl rfl (fun _ => rfl) (fun _ => rfl) (fun _ => rfl) (fun _ => rfl) rfl rfl rfl rfl rfl (Nat.le_of_ble_eq_true rfl) dX6_addBranch_22 ⟨by decide, by decide⟩ (fun r_5 _ h_4 => ?_)
    subst h_4
    refine v_ifz_eq C 30 dX6_addBranch_25 (by decide) (fun h => nomatch h) (fun _ => ?_)
    refine v_iconst C (z := 0) dX6_addBranch_28 ?_
    exact (v_iret C hr hl () (by decide) (by decide) rfl trivial dX6_addBranch_29)
theorem inX6_head_6 : ∀ w ∈ u_ws RX6 TX6 23, w ∈ wsX6_head := by decide +kernel
theorem lkX6_head_40 : Cond.fieldLink RX6 40 "MergeAtelierModel" "heads" "[I" ∈ wsX6_head := by decide +kernel
set_option maxHeartbeats 4000000 in
set_option maxRecDepth 100000 in
theorem kX6_head_ok (l : Launch) (g : vG) {mm b1 b2 b3 b4 b5 b6 b7 b8 b9 b10 b11 b12 b13 b14 b15 b16 b17 : Nat} {kinds tgs first second vals qs : Nat → Int} {hds An qi qo Tm Nw Kw ris : Nat → Nat} {ni bc cm cn qc cd : Nat} {x0 : Nat} (hI : MI vals ris cn kinds tgs first second qs hds An qi qo Tm ni bc cm qc) (hx0 : x0 < bc)  : mI l g yX6_head wsX6_head ({ frames := 2, cells := 0, slots := 0, locals := 43 }) [.ref (mm), .int (iI ((x0 : Nat) : Int))] (wMM g mm b1 b2 b3 b4 b5 b6 b7 b8 b9 b10 b11 b12 b13 b14 b15 b16 b17 kinds ni cm first second An An Tm Tm bc hds tgs qc qi qo qs cn vals Nw Nw Kw Kw cd ++ ([])) (fun _ : Unit => wMM g mm b1 b2 b3 b4 b5 b6 b7 b8 b9 b10 b11 b12 b13 b14 b15 b16 b17 kinds ni cm first second An An Tm Tm bc hds tgs qc qi qo qs cn vals Nw Nw Kw Kw 0 ++ ([])) (fun v _ => v = iI ((hds (x0) : Nat) : Int)) 0 0 := by
  refine mI_of (cc := cX6_head) (maxL := 2) (ret := (some .int)) (own := RX6) (by decide) rfl rfl (Nat.le_of_ble_eq_true rfl) ?_
  intro p e s m args below meth c A C hr hl hin
  obtain ⟨hni, hbc1, hbc, hcm1, hcm, hcn1, hnm, hqc, hhd, htg, hf, hs, hfc, hsc, hAn, hTm, hao, hpal, hqb, hqi, htk, hkd⟩ := id hI
  refine v_aload_n C dX6_head_0 rfl 0 rfl ?_
  refine v_aload_n C dX6_head_1 rfl 0 rfl ?_
  refine v_iload_n C dX6_head_2 rfl 1 rfl ?_
  refine v_invVI C (As := [.int (iI ((x0 : Nat) : Int))]) (q0 := 0) (ci := 6) (kX6_isNoBranch_in l g (mm := mm) (b1 := b1) (b2 := b2) (b3 := b3) (b4 := b4) (b5 := b5) (b6 := b6) (b7 := b7) (b8 := b8) (b9 := b9) (b10 := b10) (b11 := b11) (b12 := b12) (b13 := b13) (b14 := b14) (b15 := b15) (b16 := b16) (b17 := b17) (kinds := kinds) (tgs := tgs) (first := first) (second := second) (vals := vals) (qs := qs) (hds := hds) (An := An) (qi := qi) (qo := qo) (Tm := Tm) (Nw := Nw) (Kw := Kw) (ni := ni) (bc := bc) (cm := cm) (cn := cn) (qc := qc) (cd := cd) (ris := ris) (i0 := x0) (by omega) (by omega)) (cwV 1 C.2.2.2.2.1 gX6_head_X6_isNoBranch rfl rfl rfl (by decide +kernel) ⟨Nat.le_of_ble_eq_true rfl, Nat.le_of_ble_eq_true rfl⟩) [wMM g mm b1 b2 b3 b4 b5 b6 b7 b8 b9 b10 b11 b12 b13 b14 b15 b16 b17 kinds ni cm first second An An Tm Tm bc hds tgs qc qi qo qs cn vals Nw Nw Kw Kw cd] [0] [] [.ref (mm)] (fun _ => [wMM g mm b1 b2 b3 b4 b5 b6 b7 b8 b9 b10 b11 b12 b13 b14 b15 b16 b17 kinds ni cm first second An An Tm Tm bc hds tgs qc qi qo qs cn vals Nw Nw Kw Kw cd]) (fun _ => wMM g mm b1 b2 b3 b4 b5 b6 b7 b8 b9 b10 b11 b12 b13 b14 b15 b16 b17 kinds ni cm first second An An Tm Tm bc hds tgs qc qi qo qs cn vals Nw Nw Kw Kw cd ++ ([])) rfl rfl rfl (fun _ => rfl) (fun _ => rfl) (fun _ => rfl) (fun _ => rfl) rfl rfl rfl rfl rfl (Nat.le_of_ble_eq_true rfl) dX6_head_3 ⟨by decide, by decide⟩ (fun r_2 _ h_1 => ?_)
  subst h_1
  refine v_ifz_eq C 13 dX6_head_6 (by decide) (fun _ => ?_) (fun h => nomatch h) 
  refine v_iconst C (z := 0) dX6_head_13 ?_
  refine v_invVI C (As := [.int (iI (0))]) (q0 := 0) (ci := 6) (kX6_fails_z l g (mm := mm) (b1 := b1) (b2 := b2) (b3 := b3) (b4 := b4) (b5 := b5) (b6 := b6) (b7 := b7) (b8 := b8) (b9 := b9) (b10 := b10) (b11 := b11) (b12 := b12) (b13 := b13) (b14 := b14) (b15 := b15) (b16 := b16) (b17 := b17) (kinds := kinds) (tgs := tgs) (first := first) (second := second) (vals := vals) (qs := qs) (hds := hds) (An := An) (qi := qi) (qo := qo) (Tm := Tm) (Nw := Nw) (Kw := Kw) (ni := ni) (bc := bc) (cm := cm) (cn := cn) (qc := qc) (cd := cd) (ris := ris)  ) (cwV 1 C.2.2.2.2.1 gX6_head_X6_fails rfl rfl rfl (by decide +kernel) ⟨Nat.le_of_ble_eq_true rfl, Nat.le_of_ble_eq_true rfl⟩) [wMM g mm b1 b2 b3 b4 b5 b6 b7 b8 b9 b10 b11 b12 b13 b14 b15 b16 b17 kinds ni cm first second An An Tm Tm bc hds tgs qc qi qo qs cn vals Nw Nw Kw Kw cd] [0] [] [] (fun _ => [wMM g mm b1 b2 b3 b4 b5 b6 b7 b8 b9 b10 b11 b12 b13 b14 b15 b16 b17 kinds ni cm first second An An Tm Tm bc hds tgs qc qi qo qs cn vals Nw Nw Kw Kw 0]) (fun _ => wMM g mm b1 b2 b3 b4 b5 b6 b7 b8 b9 b10 b11 b12 b13 b14 b15 b16 b17 kinds ni cm first second An An Tm Tm bc hds tgs qc qi qo qs cn vals Nw Nw Kw Kw 0 ++ ([])) rfl rfl rfl (fun _ => rfl) (fun _ => rfl) (fun _ => rfl) (fun _ => rfl) rfl rfl rfl rfl rfl (Nat.le_of_ble_eq_true rfl) dX6_head_14 ⟨by decide, by decide⟩ (fun r_4 _ h_3 => ?_)
  subst h_3
  refine v_ifz_eq C 24 dX6_head_17 (by decide) (fun _ => ?_) (fun h => nomatch h) 
  refine v_aload_n C dX6_head_24 rfl 0 rfl ?_
  refine v_get C 0 (kf := 10) rfl rfl (by decide) inX6_head_6 lkX6_head_40 rfl rfl dX6_head_25 ?_
  refine v_iload_n C dX6_head_28 rfl 1 rfl ?_
  refine v_ialdn C 8 (x0) rfl rfl (by omega) (by decide) dX6_head_29 ?_
  exact (v_iret C hr hl () (by decide) (by decide) rfl rfl dX6_head_30)
set_option maxHeartbeats 4000000 in
set_option maxRecDepth 100000 in
theorem kX6_head_a (l : Launch) (g : vG) {mm b1 b2 b3 b4 b5 b6 b7 b8 b9 b10 b11 b12 b13 b14 b15 b16 b17 : Nat} {kinds tgs first second vals qs : Nat → Int} {hds An qi qo Tm Nw Kw ris : Nat → Nat} {ni bc cm cn qc cd : Nat} {x : Int} (hI : MI vals ris cn kinds tgs first second qs hds An qi qo Tm ni bc cm qc) (hx : b31 x) (hqx : ¬ (0 ≤ x ∧ x < ((bc : Nat) : Int)))  : mI l g yX6_head wsX6_head ({ frames := 2, cells := 0, slots := 0, locals := 43 }) [.ref (mm), .int (iI (x))] (wMM g mm b1 b2 b3 b4 b5 b6 b7 b8 b9 b10 b11 b12 b13 b14 b15 b16 b17 kinds ni cm first second An An Tm Tm bc hds tgs qc qi qo qs cn vals Nw Nw Kw Kw cd ++ ([])) (fun _ : Unit => wMM g mm b1 b2 b3 b4 b5 b6 b7 b8 b9 b10 b11 b12 b13 b14 b15 b16 b17 kinds ni cm first second An An Tm Tm bc hds tgs qc qi qo qs cn vals Nw Nw Kw Kw 1 ++ ([])) (fun _ _ => True) 0 0 := by
  refine mI_of (cc := cX6_head) (maxL := 2) (ret := (some .int)) (own := RX6) (by decide) rfl rfl (Nat.le_of_ble_eq_true rfl) ?_
  intro p e s m args below meth c A C hr hl hin
  obtain ⟨hni, hbc1, hbc, hcm1, hcm, hcn1, hnm, hqc, hhd, htg, hf, hs, hfc, hsc, hAn, hTm, hao, hpal, hqb, hqi, htk, hkd⟩ := id hI
  have hx1 := hx.1
  have hx2 := hx.2
  refine v_aload_n C dX6_head_0 rfl 0 rfl ?_
  refine v_aload_n C dX6_head_1 rfl 0 rfl ?_
  refine v_iload_n C dX6_head_2 rfl 1 rfl ?_
  refine v_invVI C (As := [.int (iI (x))]) (q0 := 0) (ci := 6) (kX6_isNoBranch_out l g (mm := mm) (b1 := b1) (b2 := b2) (b3 := b3) (b4 := b4) (b5 := b5) (b6 := b6) (b7 := b7) (b8 := b8) (b9 := b9) (b10 := b10) (b11 := b11) (b12 := b12) (b13 := b13) (b14 := b14) (b15 := b15) (b16 := b16) (b17 := b17) (kinds := kinds) (tgs := tgs) (first := first) (second := second) (vals := vals) (qs := qs) (hds := hds) (An := An) (qi := qi) (qo := qo) (Tm := Tm) (Nw := Nw) (Kw := Kw) (ni := ni) (bc := bc) (cm := cm) (cn := cn) (qc := qc) (cd := cd) (ris := ris) (x := x) ⟨by omega, by omega⟩ (by omega) (by omega)) (cwV 1 C.2.2.2.2.1 gX6_head_X6_isNoBranch rfl rfl rfl (by decide +kernel) ⟨Nat.le_of_ble_eq_true rfl, Nat.le_of_ble_eq_true rfl⟩) [wMM g mm b1 b2 b3 b4 b5 b6 b7 b8 b9 b10 b11 b12 b13 b14 b15 b16 b17 kinds ni cm first second An An Tm Tm bc hds tgs qc qi qo qs cn vals Nw Nw Kw Kw cd] [0] [] [.ref (mm)] (fun _ => [wMM g mm b1 b2 b3 b4 b5 b6 b7 b8 b9 b10 b11 b12 b13 b14 b15 b16 b17 kinds ni cm first second An An Tm Tm bc hds tgs qc qi qo qs cn vals Nw Nw Kw Kw cd]) (fun _ => wMM g mm b1 b2 b3 b4 b5 b6 b7 b8 b9 b10 b11 b12 b13 b14 b15 b16 b17 kinds ni cm first second An An Tm Tm bc hds tgs qc qi qo qs cn vals Nw Nw Kw Kw cd ++ ([])) rfl rfl rfl (fun _ => rfl) (fun _ => rfl) (fun _ => rfl) (fun _ => rfl) rfl rfl rfl rfl rfl (Nat.le_of_ble_eq_true rfl) dX6_head_3 ⟨by decide, by decide⟩ (fun r_2 _ h_1 => ?_)
  subst h_1
  refine v_ifz_eq C 13 dX6_head_6 (by decide) (fun h => nomatch h) (fun _ => ?_)
  refine v_iconst C (z := 1) dX6_head_9 ?_
  refine v_goto C 14 dX6_head_10 (by decide) ?_
  refine v_invVI C (As := [.int (iI (1))]) (q0 := 0) (ci := 6) (kX6_fails_p l g (mm := mm) (b1 := b1) (b2 := b2) (b3 := b3) (b4 := b4) (b5 := b5) (b6 := b6) (b7 := b7) (b8 := b8) (b9 := b9) (b10 := b10) (b11 := b11) (b12 := b12) (b13 := b13) (b14 := b14) (b15 := b15) (b16 := b16) (b17 := b17) (kinds := kinds) (tgs := tgs) (first := first) (second := second) (vals := vals) (qs := qs) (hds := hds) (An := An) (qi := qi) (qo := qo) (Tm := Tm) (Nw := Nw) (Kw := Kw) (ni := ni) (bc := bc) (cm := cm) (cn := cn) (qc := qc) (cd := cd) (ris := ris) (q := 1) (by decide)) (cwV 1 C.2.2.2.2.1 gX6_head_X6_fails rfl rfl rfl (by decide +kernel) ⟨Nat.le_of_ble_eq_true rfl, Nat.le_of_ble_eq_true rfl⟩) [wMM g mm b1 b2 b3 b4 b5 b6 b7 b8 b9 b10 b11 b12 b13 b14 b15 b16 b17 kinds ni cm first second An An Tm Tm bc hds tgs qc qi qo qs cn vals Nw Nw Kw Kw cd] [0] [] [] (fun _ => [wMM g mm b1 b2 b3 b4 b5 b6 b7 b8 b9 b10 b11 b12 b13 b14 b15 b16 b17 kinds ni cm first second An An Tm Tm bc hds tgs qc qi qo qs cn vals Nw Nw Kw Kw 1]) (fun _ => wMM g mm b1 b2 b3 b4 b5 b6 b7 b8 b9 b10 b11 b12 b13 b14 b15 b16 b17 kinds ni cm first second An An Tm Tm bc hds tgs qc qi qo qs cn vals Nw Nw Kw Kw 1 ++ ([])) rfl rfl rfl (fun _ => rfl) (fun _ => rfl) (fun _ => rfl) (fun _ => rfl) rfl rfl rfl rfl rfl (Nat.le_of_ble_eq_true rfl) dX6_head_14 ⟨by decide, by decide⟩ (fun r_4 _ h_3 => ?_)
  subst h_3
  refine v_ifz_eq C 24 dX6_head_17 (by decide) (fun h => nomatch h) (fun _ => ?_)
  refine v_iconst C (z := 0) dX6_head_20 ?_
  refine v_goto C 30 dX6_head_21 (by decide) ?_
  exact (v_iret C hr hl () (by decide) (by decide) rfl trivial dX6_head_30)
set_option maxHeartbeats 4000000 in
set_option maxRecDepth 100000 in
theorem kX6_set_ok (l : Launch) (g : vG) {mm b1 b2 b3 b4 b5 b6 b7 b8 b9 b10 b11 b12 b13 b14 b15 b16 b17 : Nat} {kinds tgs first second vals qs : Nat → Int} {hds An qi qo Tm Nw Kw ris : Nat → Nat} {ni bc cm cn qc cd : Nat} {x0 : Nat} {y0 : Nat} {z : Int} (hI : MI vals ris cn kinds tgs first second qs hds An qi qo Tm ni bc cm qc) (hx0 : x0 < bc) (hy0 : y0 < ni) (hz : b31 z) (hz3 : -999 ≤ z) (hz4 : z ≤ 999) (hcf : cm < 100) : mI l g yX6_set wsX6_set ({ frames := 3, cells := 0, slots := 0, locals := 69 }) [.ref (mm), .int (iI ((x0 : Nat) : Int)), .int (iI ((y0 : Nat) : Int)), .int (iI (z))] (wMM g mm b1 b2 b3 b4 b5 b6 b7 b8 b9 b10 b11 b12 b13 b14 b15 b16 b17 kinds ni cm first second An An Tm Tm bc hds tgs qc qi qo qs cn vals Nw Nw Kw Kw cd ++ ([])) (fun _ : Unit => wMM g mm b1 b2 b3 b4 b5 b6 b7 b8 b9 b10 b11 b12 b13 b14 b15 b16 b17 kinds ni (cm + 1) (updZ first (cm) (((hds (x0) : Nat) : Int))) (updZ second (cm) (-1)) (updN An (cm) (An (hds (x0)) ||| 2 ^ cm)) (updN An (cm) (An (hds (x0)) ||| 2 ^ cm)) (updN (rowP Tm cm ni (fun i => Tm (12 * hds (x0) + i))) (12 * cm + y0) (2 ^ (nOf vals (z) cn))) (updN (rowP Tm cm ni (fun i => Tm (12 * hds (x0) + i))) (12 * cm + y0) (2 ^ (nOf vals (z) cn))) bc (updN hds (x0) (cm)) tgs qc qi qo qs (tCn vals cn (z)) (tVals vals cn (z)) Nw Nw Kw Kw 0 ++ ([])) (fun v _ => v = iI ((cm : Nat) : Int)) 0 0 := by
  refine mI_of (cc := cX6_set) (maxL := 4) (ret := (some .int)) (own := RX6) (by decide) rfl rfl (Nat.le_of_ble_eq_true rfl) ?_
  intro p e s m args below meth c A C hr hl hin
  obtain ⟨hni, hbc1, hbc, hcm1, hcm, hcn1, hnm, hqc, hhd, htg, hf, hs, hfc, hsc, hAn, hTm, hao, hpal, hqb, hqi, htk, hkd⟩ := id hI
  have hz1 := hz.1
  have hz2 := hz.2
  refine v_aload_n C dX6_set_0 rfl 0 rfl ?_
  refine v_iload_n C dX6_set_1 rfl 1 rfl ?_
  refine v_iload_n C dX6_set_2 rfl 2 rfl ?_
  refine v_invVI C (As := [.int (iI ((x0 : Nat) : Int)), .int (iI ((y0 : Nat) : Int))]) (q0 := 0) (ci := 6) (kX6_isNowhere_in l g (mm := mm) (b1 := b1) (b2 := b2) (b3 := b3) (b4 := b4) (b5 := b5) (b6 := b6) (b7 := b7) (b8 := b8) (b9 := b9) (b10 := b10) (b11 := b11) (b12 := b12) (b13 := b13) (b14 := b14) (b15 := b15) (b16 := b16) (b17 := b17) (kinds := kinds) (tgs := tgs) (first := first) (second := second) (vals := vals) (qs := qs) (hds := hds) (An := An) (qi := qi) (qo := qo) (Tm := Tm) (Nw := Nw) (Kw := Kw) (ni := ni) (bc := bc) (cm := cm) (cn := cn) (qc := qc) (cd := cd) (ris := ris) (i0 := x0) (j0 := y0) (by omega) (by omega) (by omega) (by omega)) (cwV 2 C.2.2.2.2.1 gX6_set_X6_isNowhere rfl rfl rfl (by decide +kernel) ⟨Nat.le_of_ble_eq_true rfl, Nat.le_of_ble_eq_true rfl⟩) [wMM g mm b1 b2 b3 b4 b5 b6 b7 b8 b9 b10 b11 b12 b13 b14 b15 b16 b17 kinds ni cm first second An An Tm Tm bc hds tgs qc qi qo qs cn vals Nw Nw Kw Kw cd] [0] [] [] (fun _ => [wMM g mm b1 b2 b3 b4 b5 b6 b7 b8 b9 b10 b11 b12 b13 b14 b15 b16 b17 kinds ni cm first second An An Tm Tm bc hds tgs qc qi qo qs cn vals Nw Nw Kw Kw 0]) (fun _ => wMM g mm b1 b2 b3 b4 b5 b6 b7 b8 b9 b10 b11 b12 b13 b14 b15 b16 b17 kinds ni cm first second An An Tm Tm bc hds tgs qc qi qo qs cn vals Nw Nw Kw Kw 0 ++ ([])) rfl rfl rfl (fun _ => rfl) (fun _ => rfl) (fun _ => rfl) (fun _ => rfl) rfl rfl rfl rfl rfl (Nat.le_of_ble_eq_true rfl) dX6_set_3 ⟨by decide, by decide⟩ (fun r_2 _ h_1 => ?_)
  subst h_1
  refine v_ifz_ne C 39 dX6_set_6 (by decide) (fun h => nomatch h) (fun _ => ?_)
  refine v_aload_n C dX6_set_9 rfl 0 rfl ?_
  refine v_iload_n C dX6_set_10 rfl 3 rfl ?_
  refine v_sipush C (z := -999) dX6_set_11 rfl ?_
  refine v_sipush C (z := 999) dX6_set_14 rfl ?_
  refine v_invSI C (As := [.int (iI (z)), .int (iI (-999)), .int (iI (999))]) (kX6_in_t l g  (x := z) (y := -999) (z := 999) ⟨by omega, by omega⟩ (b31_lit _ rfl) (b31_lit _ rfl) (by omega) (by omega)) (cwS 3 C.2.2.2.2.1 gX6_set_X6_in rfl rfl rfl (by decide +kernel) ⟨Nat.le_of_ble_eq_true rfl, Nat.le_of_ble_eq_true rfl⟩) [wMM g mm b1 b2 b3 b4 b5 b6 b7 b8 b9 b10 b11 b12 b13 b14 b15 b16 b17 kinds ni cm first second An An Tm Tm bc hds tgs qc qi qo qs cn vals Nw Nw Kw Kw 0] [] [0] [.ref (mm)] (fun _ => [wMM g mm b1 b2 b3 b4 b5 b6 b7 b8 b9 b10 b11 b12 b13 b14 b15 b16 b17 kinds ni cm first second An An Tm Tm bc hds tgs qc qi qo qs cn vals Nw Nw Kw Kw 0]) (fun _ => wMM g mm b1 b2 b3 b4 b5 b6 b7 b8 b9 b10 b11 b12 b13 b14 b15 b16 b17 kinds ni cm first second An An Tm Tm bc hds tgs qc qi qo qs cn vals Nw Nw Kw Kw 0 ++ ([])) rfl rfl rfl (fun _ => rfl) (fun _ => rfl) (fun _ => rfl) (fun _ => rfl) rfl rfl (Nat.le_of_ble_eq_true rfl) dX6_set_17 ⟨by decide, by decide⟩ (fun r_4 _ h_3 => ?_)
  subst h_3
  refine v_ifz_ne C 27 dX6_set_20 (by decide) (fun _ => ?_) (fun h => nomatch h) 
  refine v_iconst C (z := 3) dX6_set_27 ?_
  refine v_aload_n C dX6_set_28 rfl 0 rfl ?_
  refine v_invVI C (As := []) (q0 := 0) (ci := 6) (kX6_full_n l g (mm := mm) (b1 := b1) (b2 := b2) (b3 := b3) (b4 := b4) (b5 := b5) (b6 := b6) (b7 := b7) (b8 := b8) (b9 := b9) (b10 := b10) (b11 := b11) (b12 := b12) (b13 := b13) (b14 := b14) (b15 := b15) (b16 := b16) (b17 := b17) (kinds := kinds) (tgs := tgs) (first := first) (second := second) (vals := vals) (qs := qs) (hds := hds) (An := An) (qi := qi) (qo := qo) (Tm := Tm) (Nw := Nw) (Kw := Kw) (ni := ni) (bc := bc) (cm := cm) (cn := cn) (qc := qc) (cd := 0) (ris := ris)  (by omega)) (cwV 0 C.2.2.2.2.1 gX6_set_X6_full rfl rfl rfl (by decide +kernel) ⟨Nat.le_of_ble_eq_true rfl, Nat.le_of_ble_eq_true rfl⟩) [wMM g mm b1 b2 b3 b4 b5 b6 b7 b8 b9 b10 b11 b12 b13 b14 b15 b16 b17 kinds ni cm first second An An Tm Tm bc hds tgs qc qi qo qs cn vals Nw Nw Kw Kw 0] [0] [] [.int (iI (3)), .ref (mm)] (fun _ => [wMM g mm b1 b2 b3 b4 b5 b6 b7 b8 b9 b10 b11 b12 b13 b14 b15 b16 b17 kinds ni cm first second An An Tm Tm bc hds tgs qc qi qo qs cn vals Nw Nw Kw Kw 0]) (fun _ => wMM g mm b1 b2 b3 b4 b5 b6 b7 b8 b9 b10 b11 b12 b13 b14 b15 b16 b17 kinds ni cm first second An An Tm Tm bc hds tgs qc qi qo qs cn vals Nw Nw Kw Kw 0 ++ ([])) rfl rfl rfl (fun _ => rfl) (fun _ => rfl) (fun _ => rfl) (fun _ => rfl) rfl rfl rfl rfl rfl (Nat.le_of_ble_eq_true rfl) dX6_set_29 ⟨by decide, by decide⟩ (fun r_6 _ h_5 => ?_)
  subst h_5
  refine v_imul C dX6_set_32 ?_
  refine v_st (st' := [.int (iI (0)), .ref (mm)]) rfl ?_
  refine v_invVI C (As := [.int (iI (0))]) (q0 := 0) (ci := 6) (kX6_fails_z l g (mm := mm) (b1 := b1) (b2 := b2) (b3 := b3) (b4 := b4) (b5 := b5) (b6 := b6) (b7 := b7) (b8 := b8) (b9 := b9) (b10 := b10) (b11 := b11) (b12 := b12) (b13 := b13) (b14 := b14) (b15 := b15) (b16 := b16) (b17 := b17) (kinds := kinds) (tgs := tgs) (first := first) (second := second) (vals := vals) (qs := qs) (hds := hds) (An := An) (qi := qi) (qo := qo) (Tm := Tm) (Nw := Nw) (Kw := Kw) (ni := ni) (bc := bc) (cm := cm) (cn := cn) (qc := qc) (cd := 0) (ris := ris)  ) (cwV 1 C.2.2.2.2.1 gX6_set_X6_fails rfl rfl rfl (by decide +kernel) ⟨Nat.le_of_ble_eq_true rfl, Nat.le_of_ble_eq_true rfl⟩) [wMM g mm b1 b2 b3 b4 b5 b6 b7 b8 b9 b10 b11 b12 b13 b14 b15 b16 b17 kinds ni cm first second An An Tm Tm bc hds tgs qc qi qo qs cn vals Nw Nw Kw Kw 0] [0] [] [] (fun _ => [wMM g mm b1 b2 b3 b4 b5 b6 b7 b8 b9 b10 b11 b12 b13 b14 b15 b16 b17 kinds ni cm first second An An Tm Tm bc hds tgs qc qi qo qs cn vals Nw Nw Kw Kw 0]) (fun _ => wMM g mm b1 b2 b3 b4 b5 b6 b7 b8 b9 b10 b11 b12 b13 b14 b15 b16 b17 kinds ni cm first second An An Tm Tm bc hds tgs qc qi qo qs cn vals Nw Nw Kw Kw 0 ++ ([])) rfl rfl rfl (fun _ => rfl) (fun _ => rfl) (fun _ => rfl) (fun _ => rfl) rfl rfl rfl rfl rfl (Nat.le_of_ble_eq_true rfl) dX6_set_33 ⟨by decide, by decide⟩ (fun r_8 _ h_7 => ?_)
  subst h_7
  refine v_ifz_eq C 41 dX6_set_36 (by decide) (fun _ => ?_) (fun h => nomatch h) 
  refine v_aload_n C dX6_set_41 rfl 0 rfl ?_
  refine v_iload_n C dX6_set_42 rfl 1 rfl ?_
  refine v_iload_n C dX6_set_43 rfl 2 rfl ?_
  refine v_aload_n C dX6_set_44 rfl 0 rfl ?_
  refine v_iload_n C dX6_set_45 rfl 3 rfl ?_
  obtain ⟨-, -, -, -, -, -, hv, -⟩ := id hpal
  have hhx := hhd x0
  have hno := nOf_le vals z cn
  refine v_invVI C (As := [.int (iI (z))]) (q0 := 0) (ci := 6) (kX6_numberOf l g (mm := mm) (b1 := b1) (b2 := b2) (b3 := b3) (b4 := b4) (b5 := b5) (b6 := b6) (b7 := b7) (b8 := b8) (b9 := b9) (b10 := b10) (b11 := b11) (b12 := b12) (b13 := b13) (b14 := b14) (b15 := b15) (b16 := b16) (b17 := b17) (kinds := kinds) (tgs := tgs) (first := first) (second := second) (vals := vals) (qs := qs) (hds := hds) (An := An) (qi := qi) (qo := qo) (Tm := Tm) (Nw := Nw) (Kw := Kw) (ni := ni) (bc := bc) (cm := cm) (cn := cn) (qc := qc) (cd := 0) (ris := ris) (x := z) (by omega) ⟨by omega, by omega⟩ hv) (cwV 1 C.2.2.2.2.1 gX6_set_X6_numberOf rfl rfl rfl (by decide +kernel) ⟨Nat.le_of_ble_eq_true rfl, Nat.le_of_ble_eq_true rfl⟩) [wMM g mm b1 b2 b3 b4 b5 b6 b7 b8 b9 b10 b11 b12 b13 b14 b15 b16 b17 kinds ni cm first second An An Tm Tm bc hds tgs qc qi qo qs cn vals Nw Nw Kw Kw 0] [0] [] [.int (iI ((y0 : Nat) : Int)), .int (iI ((x0 : Nat) : Int)), .ref (mm)] (fun _ => [wMM g mm b1 b2 b3 b4 b5 b6 b7 b8 b9 b10 b11 b12 b13 b14 b15 b16 b17 kinds ni cm first second An An Tm Tm bc hds tgs qc qi qo qs (tCn vals cn (z)) (tVals vals cn (z)) Nw Nw Kw Kw 0]) (fun _ => wMM g mm b1 b2 b3 b4 b5 b6 b7 b8 b9 b10 b11 b12 b13 b14 b15 b16 b17 kinds ni cm first second An An Tm Tm bc hds tgs qc qi qo qs (tCn vals cn (z)) (tVals vals cn (z)) Nw Nw Kw Kw 0 ++ ([])) rfl rfl rfl (fun _ => rfl) (fun _ => rfl) (fun _ => rfl) (fun _ => rfl) rfl rfl rfl rfl rfl (Nat.le_of_ble_eq_true rfl) dX6_set_46 ⟨by decide, by decide⟩ (fun r_10 _ h_9 => ?_)
  subst h_9
  refine v_invVI C (As := [.int (iI ((x0 : Nat) : Int)), .int (iI ((y0 : Nat) : Int)), .int (iI ((nOf vals (z) cn : Nat) : Int))]) (q0 := 0) (ci := 6) (kX6_changes l g (mm := mm) (b1 := b1) (b2 := b2) (b3 := b3) (b4 := b4) (b5 := b5) (b6 := b6) (b7 := b7) (b8 := b8) (b9 := b9) (b10 := b10) (b11 := b11) (b12 := b12) (b13 := b13) (b14 := b14) (b15 := b15) (b16 := b16) (b17 := b17) (kinds := kinds) (tgs := tgs) (first := first) (second := second) (vals := tVals vals cn (z)) (qs := qs) (hds := hds) (An := An) (qi := qi) (qo := qo) (Tm := Tm) (Nw := Nw) (Kw := Kw) (ni := ni) (bc := bc) (cm := cm) (cn := tCn vals cn (z)) (qc := qc) (cd := 0) (ris := ris) (b0 := x0) (i0 := y0) (sd := nOf vals (z) cn) (by omega) (by omega) (by omega) (by omega) (by omega) (by omega)) (cwV 3 C.2.2.2.2.1 gX6_set_X6_changes rfl rfl rfl (by decide +kernel) ⟨Nat.le_of_ble_eq_true rfl, Nat.le_of_ble_eq_true rfl⟩) [wMM g mm b1 b2 b3 b4 b5 b6 b7 b8 b9 b10 b11 b12 b13 b14 b15 b16 b17 kinds ni cm first second An An Tm Tm bc hds tgs qc qi qo qs (tCn vals cn (z)) (tVals vals cn (z)) Nw Nw Kw Kw 0] [0] [] [] (fun _ => [wMM g mm b1 b2 b3 b4 b5 b6 b7 b8 b9 b10 b11 b12 b13 b14 b15 b16 b17 kinds ni (cm + 1) (updZ first (cm) (((hds (x0) : Nat) : Int))) (updZ second (cm) (-1)) (updN An (cm) (An (hds (x0)) ||| 2 ^ cm)) (updN An (cm) (An (hds (x0)) ||| 2 ^ cm)) (updN (rowP Tm cm ni (fun i => Tm (12 * hds (x0) + i))) (12 * cm + y0) (2 ^ (nOf vals (z) cn))) (updN (rowP Tm cm ni (fun i => Tm (12 * hds (x0) + i))) (12 * cm + y0) (2 ^ (nOf vals (z) cn))) bc (updN hds (x0) (cm)) tgs qc qi qo qs (tCn vals cn (z)) (tVals vals cn (z)) Nw Nw Kw Kw 0]) (fun _ => wMM g mm b1 b2 b3 b4 b5 b6 b7 b8 b9 b10 b11 b12 b13 b14 b15 b16 b17 kinds ni (cm + 1) (updZ first (cm) (((hds (x0) : Nat) : Int))) (updZ second (cm) (-1)) (updN An (cm) (An (hds (x0)) ||| 2 ^ cm)) (updN An (cm) (An (hds (x0)) ||| 2 ^ cm)) (updN (rowP Tm cm ni (fun i => Tm (12 * hds (x0) + i))) (12 * cm + y0) (2 ^ (nOf vals (z) cn))) (updN (rowP Tm cm ni (fun i => Tm (12 * hds (x0) + i))) (12 * cm + y0) (2 ^ (nOf vals (z) cn))) bc (updN hds (x0) (cm)) tgs qc qi qo qs (tCn vals cn (z)) (tVals vals cn (z)) Nw Nw Kw Kw 0 ++ ([])) rfl rfl rfl (fun _ => rfl) (fun _ => rfl) (fun _ => rfl) (fun _ => rfl) rfl rfl rfl rfl rfl (Nat.le_of_ble_eq_true rfl) dX6_set_49 ⟨by decide, by decide⟩ (fun r_12 _ h_11 => ?_)
  subst h_11
  exact (v_iret C hr hl () (by decide) (by decide) rfl rfl dX6_set_52)
set_option maxHeartbeats 4000000 in
set_option maxRecDepth 100000 in
theorem kX6_set_a (l : Launch) (g : vG) {mm b1 b2 b3 b4 b5 b6 b7 b8 b9 b10 b11 b12 b13 b14 b15 b16 b17 : Nat} {kinds tgs first second vals qs : Nat → Int} {hds An qi qo Tm Nw Kw ris : Nat → Nat} {ni bc cm cn qc cd : Nat} {x : Int} {y : Int} {z : Int} (hI : MI vals ris cn kinds tgs first second qs hds An qi qo Tm ni bc cm qc) (hx : b31 x) (hqx : ¬ (0 ≤ x ∧ x < ((bc : Nat) : Int))) (hy : b31 y) (hz : b31 z)  : mI l g yX6_set wsX6_set ({ frames := 3, cells := 0, slots := 0, locals := 65 }) [.ref (mm), .int (iI (x)), .int (iI (y)), .int (iI (z))] (wMM g mm b1 b2 b3 b4 b5 b6 b7 b8 b9 b10 b11 b12 b13 b14 b15 b16 b17 kinds ni cm first second An An Tm Tm bc hds tgs qc qi qo qs cn vals Nw Nw Kw Kw cd ++ ([])) (fun _ : Unit => wMM g mm b1 b2 b3 b4 b5 b6 b7 b8 b9 b10 b11 b12 b13 b14 b15 b16 b17 kinds ni cm first second An An Tm Tm bc hds tgs qc qi qo qs cn vals Nw Nw Kw Kw 1 ++ ([])) (fun _ _ => True) 0 0 := by
  refine mI_of (cc := cX6_set) (maxL := 4) (ret := (some .int)) (own := RX6) (by decide) rfl rfl (Nat.le_of_ble_eq_true rfl) ?_
  intro p e s m args below meth c A C hr hl hin
  obtain ⟨hni, hbc1, hbc, hcm1, hcm, hcn1, hnm, hqc, hhd, htg, hf, hs, hfc, hsc, hAn, hTm, hao, hpal, hqb, hqi, htk, hkd⟩ := id hI
  have hx1 := hx.1
  have hx2 := hx.2
  have hy1 := hy.1
  have hy2 := hy.2
  have hz1 := hz.1
  have hz2 := hz.2
  refine v_aload_n C dX6_set_0 rfl 0 rfl ?_
  refine v_iload_n C dX6_set_1 rfl 1 rfl ?_
  refine v_iload_n C dX6_set_2 rfl 2 rfl ?_
  refine v_invVI C (As := [.int (iI (x)), .int (iI (y))]) (q0 := 0) (ci := 6) (kX6_isNowhere_a l g (mm := mm) (b1 := b1) (b2 := b2) (b3 := b3) (b4 := b4) (b5 := b5) (b6 := b6) (b7 := b7) (b8 := b8) (b9 := b9) (b10 := b10) (b11 := b11) (b12 := b12) (b13 := b13) (b14 := b14) (b15 := b15) (b16 := b16) (b17 := b17) (kinds := kinds) (tgs := tgs) (first := first) (second := second) (vals := vals) (qs := qs) (hds := hds) (An := An) (qi := qi) (qo := qo) (Tm := Tm) (Nw := Nw) (Kw := Kw) (ni := ni) (bc := bc) (cm := cm) (cn := cn) (qc := qc) (cd := cd) (ris := ris) (x := x) (y := y) ⟨by omega, by omega⟩ (by omega) (by omega) (by omega)) (cwV 2 C.2.2.2.2.1 gX6_set_X6_isNowhere rfl rfl rfl (by decide +kernel) ⟨Nat.le_of_ble_eq_true rfl, Nat.le_of_ble_eq_true rfl⟩) [wMM g mm b1 b2 b3 b4 b5 b6 b7 b8 b9 b10 b11 b12 b13 b14 b15 b16 b17 kinds ni cm first second An An Tm Tm bc hds tgs qc qi qo qs cn vals Nw Nw Kw Kw cd] [0] [] [] (fun _ => [wMM g mm b1 b2 b3 b4 b5 b6 b7 b8 b9 b10 b11 b12 b13 b14 b15 b16 b17 kinds ni cm first second An An Tm Tm bc hds tgs qc qi qo qs cn vals Nw Nw Kw Kw 1]) (fun _ => wMM g mm b1 b2 b3 b4 b5 b6 b7 b8 b9 b10 b11 b12 b13 b14 b15 b16 b17 kinds ni cm first second An An Tm Tm bc hds tgs qc qi qo qs cn vals Nw Nw Kw Kw 1 ++ ([])) rfl rfl rfl (fun _ => rfl) (fun _ => rfl) (fun _ => rfl) (fun _ => rfl) rfl rfl rfl rfl rfl (Nat.le_of_ble_eq_true rfl) dX6_set_3 ⟨by decide, by decide⟩ (fun r_2 _ h_1 => ?_)
  subst h_1
  refine v_ifz_ne C 39 dX6_set_6 (by decide) (fun _ => ?_) (fun h => nomatch h) 
  refine v_iconst C (z := 0) dX6_set_39 ?_
  exact (v_iret C hr hl () (by decide) (by decide) rfl trivial dX6_set_40)
set_option maxHeartbeats 4000000 in
set_option maxRecDepth 100000 in
theorem kX6_set_b (l : Launch) (g : vG) {mm b1 b2 b3 b4 b5 b6 b7 b8 b9 b10 b11 b12 b13 b14 b15 b16 b17 : Nat} {kinds tgs first second vals qs : Nat → Int} {hds An qi qo Tm Nw Kw ris : Nat → Nat} {ni bc cm cn qc cd : Nat} {x0 : Nat} {y : Int} {z : Int} (hI : MI vals ris cn kinds tgs first second qs hds An qi qo Tm ni bc cm qc) (hx0 : x0 < bc) (hy : b31 y) (hqy : ¬ (0 ≤ y ∧ y < ((ni : Nat) : Int))) (hz : b31 z)  : mI l g yX6_set wsX6_set ({ frames := 3, cells := 0, slots := 0, locals := 65 }) [.ref (mm), .int (iI ((x0 : Nat) : Int)), .int (iI (y)), .int (iI (z))] (wMM g mm b1 b2 b3 b4 b5 b6 b7 b8 b9 b10 b11 b12 b13 b14 b15 b16 b17 kinds ni cm first second An An Tm Tm bc hds tgs qc qi qo qs cn vals Nw Nw Kw Kw cd ++ ([])) (fun _ : Unit => wMM g mm b1 b2 b3 b4 b5 b6 b7 b8 b9 b10 b11 b12 b13 b14 b15 b16 b17 kinds ni cm first second An An Tm Tm bc hds tgs qc qi qo qs cn vals Nw Nw Kw Kw 1 ++ ([])) (fun _ _ => True) 0 0 := by
  refine mI_of (cc := cX6_set) (maxL := 4) (ret := (some .int)) (own := RX6) (by decide) rfl rfl (Nat.le_of_ble_eq_true rfl) ?_
  intro p e s m args below meth c A C hr hl hin
  obtain ⟨hni, hbc1, hbc, hcm1, hcm, hcn1, hnm, hqc, hhd, htg, hf, hs, hfc, hsc, hAn, hTm, hao, hpal, hqb, hqi, htk, hkd⟩ := id hI
  have hy1 := hy.1
  have hy2 := hy.2
  have hz1 := hz.1
  have hz2 := hz.2
  refine v_aload_n C dX6_set_0 rfl 0 rfl ?_
  refine v_iload_n C dX6_set_1 rfl 1 rfl ?_
  refine v_iload_n C dX6_set_2 rfl 2 rfl ?_
  refine v_invVI C (As := [.int (iI ((x0 : Nat) : Int)), .int (iI (y))]) (q0 := 0) (ci := 6) (kX6_isNowhere_b l g (mm := mm) (b1 := b1) (b2 := b2) (b3 := b3) (b4 := b4) (b5 := b5) (b6 := b6) (b7 := b7) (b8 := b8) (b9 := b9) (b10 := b10) (b11 := b11) (b12 := b12) (b13 := b13) (b14 := b14) (b15 := b15) (b16 := b16) (b17 := b17) (kinds := kinds) (tgs := tgs) (first := first) (second := second) (vals := vals) (qs := qs) (hds := hds) (An := An) (qi := qi) (qo := qo) (Tm := Tm) (Nw := Nw) (Kw := Kw) (ni := ni) (bc := bc) (cm := cm) (cn := cn) (qc := qc) (cd := cd) (ris := ris) (i0 := x0) (y := y) (by omega) ⟨by omega, by omega⟩ (by omega) (by omega) (by omega)) (cwV 2 C.2.2.2.2.1 gX6_set_X6_isNowhere rfl rfl rfl (by decide +kernel) ⟨Nat.le_of_ble_eq_true rfl, Nat.le_of_ble_eq_true rfl⟩) [wMM g mm b1 b2 b3 b4 b5 b6 b7 b8 b9 b10 b11 b12 b13 b14 b15 b16 b17 kinds ni cm first second An An Tm Tm bc hds tgs qc qi qo qs cn vals Nw Nw Kw Kw cd] [0] [] [] (fun _ => [wMM g mm b1 b2 b3 b4 b5 b6 b7 b8 b9 b10 b11 b12 b13 b14 b15 b16 b17 kinds ni cm first second An An Tm Tm bc hds tgs qc qi qo qs cn vals Nw Nw Kw Kw 1]) (fun _ => wMM g mm b1 b2 b3 b4 b5 b6 b7 b8 b9 b10 b11 b12 b13 b14 b15 b16 b17 kinds ni cm first second An An Tm Tm bc hds tgs qc qi qo qs cn vals Nw Nw Kw Kw 1 ++ ([])) rfl rfl rfl (fun _ => rfl) (fun _ => rfl) (fun _ => rfl) (fun _ => rfl) rfl rfl rfl rfl rfl (Nat.le_of_ble_eq_true rfl) dX6_set_3 ⟨by decide, by decide⟩ (fun r_2 _ h_1 => ?_)
  subst h_1
  refine v_ifz_ne C 39 dX6_set_6 (by decide) (fun _ => ?_) (fun h => nomatch h) 
  refine v_iconst C (z := 0) dX6_set_39 ?_
  exact (v_iret C hr hl () (by decide) (by decide) rfl trivial dX6_set_40)
set_option maxHeartbeats 4000000 in
set_option maxRecDepth 100000 in
theorem kX6_set_2 (l : Launch) (g : vG) {mm b1 b2 b3 b4 b5 b6 b7 b8 b9 b10 b11 b12 b13 b14 b15 b16 b17 : Nat} {kinds tgs first second vals qs : Nat → Int} {hds An qi qo Tm Nw Kw ris : Nat → Nat} {ni bc cm cn qc cd : Nat} {x0 : Nat} {y0 : Nat} {z : Int} (hI : MI vals ris cn kinds tgs first second qs hds An qi qo Tm ni bc cm qc) (hx0 : x0 < bc) (hy0 : y0 < ni) (hz : b31 z) (hq : ¬ (-999 ≤ z ∧ z ≤ 999)) : mI l g yX6_set wsX6_set ({ frames := 3, cells := 0, slots := 0, locals := 65 }) [.ref (mm), .int (iI ((x0 : Nat) : Int)), .int (iI ((y0 : Nat) : Int)), .int (iI (z))] (wMM g mm b1 b2 b3 b4 b5 b6 b7 b8 b9 b10 b11 b12 b13 b14 b15 b16 b17 kinds ni cm first second An An Tm Tm bc hds tgs qc qi qo qs cn vals Nw Nw Kw Kw cd ++ ([])) (fun _ : Unit => wMM g mm b1 b2 b3 b4 b5 b6 b7 b8 b9 b10 b11 b12 b13 b14 b15 b16 b17 kinds ni cm first second An An Tm Tm bc hds tgs qc qi qo qs cn vals Nw Nw Kw Kw 2 ++ ([])) (fun _ _ => True) 0 0 := by
  refine mI_of (cc := cX6_set) (maxL := 4) (ret := (some .int)) (own := RX6) (by decide) rfl rfl (Nat.le_of_ble_eq_true rfl) ?_
  intro p e s m args below meth c A C hr hl hin
  obtain ⟨hni, hbc1, hbc, hcm1, hcm, hcn1, hnm, hqc, hhd, htg, hf, hs, hfc, hsc, hAn, hTm, hao, hpal, hqb, hqi, htk, hkd⟩ := id hI
  have hz1 := hz.1
  have hz2 := hz.2
  refine v_aload_n C dX6_set_0 rfl 0 rfl ?_
  refine v_iload_n C dX6_set_1 rfl 1 rfl ?_
  refine v_iload_n C dX6_set_2 rfl 2 rfl ?_
  refine v_invVI C (As := [.int (iI ((x0 : Nat) : Int)), .int (iI ((y0 : Nat) : Int))]) (q0 := 0) (ci := 6) (kX6_isNowhere_in l g (mm := mm) (b1 := b1) (b2 := b2) (b3 := b3) (b4 := b4) (b5 := b5) (b6 := b6) (b7 := b7) (b8 := b8) (b9 := b9) (b10 := b10) (b11 := b11) (b12 := b12) (b13 := b13) (b14 := b14) (b15 := b15) (b16 := b16) (b17 := b17) (kinds := kinds) (tgs := tgs) (first := first) (second := second) (vals := vals) (qs := qs) (hds := hds) (An := An) (qi := qi) (qo := qo) (Tm := Tm) (Nw := Nw) (Kw := Kw) (ni := ni) (bc := bc) (cm := cm) (cn := cn) (qc := qc) (cd := cd) (ris := ris) (i0 := x0) (j0 := y0) (by omega) (by omega) (by omega) (by omega)) (cwV 2 C.2.2.2.2.1 gX6_set_X6_isNowhere rfl rfl rfl (by decide +kernel) ⟨Nat.le_of_ble_eq_true rfl, Nat.le_of_ble_eq_true rfl⟩) [wMM g mm b1 b2 b3 b4 b5 b6 b7 b8 b9 b10 b11 b12 b13 b14 b15 b16 b17 kinds ni cm first second An An Tm Tm bc hds tgs qc qi qo qs cn vals Nw Nw Kw Kw cd] [0] [] [] (fun _ => [wMM g mm b1 b2 b3 b4 b5 b6 b7 b8 b9 b10 b11 b12 b13 b14 b15 b16 b17 kinds ni cm first second An An Tm Tm bc hds tgs qc qi qo qs cn vals Nw Nw Kw Kw 0]) (fun _ => wMM g mm b1 b2 b3 b4 b5 b6 b7 b8 b9 b10 b11 b12 b13 b14 b15 b16 b17 kinds ni cm first second An An Tm Tm bc hds tgs qc qi qo qs cn vals Nw Nw Kw Kw 0 ++ ([])) rfl rfl rfl (fun _ => rfl) (fun _ => rfl) (fun _ => rfl) (fun _ => rfl) rfl rfl rfl rfl rfl (Nat.le_of_ble_eq_true rfl) dX6_set_3 ⟨by decide, by decide⟩ (fun r_2 _ h_1 => ?_)
  subst h_1
  refine v_ifz_ne C 39 dX6_set_6 (by decide) (fun h => nomatch h) (fun _ => ?_)
  refine v_aload_n C dX6_set_9 rfl 0 rfl ?_
  refine v_iload_n C dX6_set_10 rfl 3 rfl ?_
  refine v_sipush C (z := -999) dX6_set_11 rfl ?_
  refine v_sipush C (z := 999) dX6_set_14 rfl ?_
  refine v_invSI C (As := [.int (iI (z)), .int (iI (-999)), .int (iI (999))]) (kX6_in_f l g  (x := z) (y := -999) (z := 999) ⟨by omega, by omega⟩ (b31_lit _ rfl) (b31_lit _ rfl) (by omega)) (cwS 3 C.2.2.2.2.1 gX6_set_X6_in rfl rfl rfl (by decide +kernel) ⟨Nat.le_of_ble_eq_true rfl, Nat.le_of_ble_eq_true rfl⟩) [wMM g mm b1 b2 b3 b4 b5 b6 b7 b8 b9 b10 b11 b12 b13 b14 b15 b16 b17 kinds ni cm first second An An Tm Tm bc hds tgs qc qi qo qs cn vals Nw Nw Kw Kw 0] [] [0] [.ref (mm)] (fun _ => [wMM g mm b1 b2 b3 b4 b5 b6 b7 b8 b9 b10 b11 b12 b13 b14 b15 b16 b17 kinds ni cm first second An An Tm Tm bc hds tgs qc qi qo qs cn vals Nw Nw Kw Kw 0]) (fun _ => wMM g mm b1 b2 b3 b4 b5 b6 b7 b8 b9 b10 b11 b12 b13 b14 b15 b16 b17 kinds ni cm first second An An Tm Tm bc hds tgs qc qi qo qs cn vals Nw Nw Kw Kw 0 ++ ([])) rfl rfl rfl (fun _ => rfl) (fun _ => rfl) (fun _ => rfl) (fun _ => rfl) rfl rfl (Nat.le_of_ble_eq_true rfl) dX6_set_17 ⟨by decide, by decide⟩ (fun r_4 _ h_3 => ?_)
  subst h_3
  refine v_ifz_ne C 27 dX6_set_20 (by decide) (fun h => nomatch h) (fun _ => ?_)
  refine v_iconst C (z := 2) dX6_set_23 ?_
  refine v_goto C 33 dX6_set_24 (by decide) ?_
  refine v_invVI C (As := [.int (iI (2))]) (q0 := 0) (ci := 6) (kX6_fails_p l g (mm := mm) (b1 := b1) (b2 := b2) (b3 := b3) (b4 := b4) (b5 := b5) (b6 := b6) (b7 := b7) (b8 := b8) (b9 := b9) (b10 := b10) (b11 := b11) (b12 := b12) (b13 := b13) (b14 := b14) (b15 := b15) (b16 := b16) (b17 := b17) (kinds := kinds) (tgs := tgs) (first := first) (second := second) (vals := vals) (qs := qs) (hds := hds) (An := An) (qi := qi) (qo := qo) (Tm := Tm) (Nw := Nw) (Kw := Kw) (ni := ni) (bc := bc) (cm := cm) (cn := cn) (qc := qc) (cd := 0) (ris := ris) (q := 2) (by decide)) (cwV 1 C.2.2.2.2.1 gX6_set_X6_fails rfl rfl rfl (by decide +kernel) ⟨Nat.le_of_ble_eq_true rfl, Nat.le_of_ble_eq_true rfl⟩) [wMM g mm b1 b2 b3 b4 b5 b6 b7 b8 b9 b10 b11 b12 b13 b14 b15 b16 b17 kinds ni cm first second An An Tm Tm bc hds tgs qc qi qo qs cn vals Nw Nw Kw Kw 0] [0] [] [] (fun _ => [wMM g mm b1 b2 b3 b4 b5 b6 b7 b8 b9 b10 b11 b12 b13 b14 b15 b16 b17 kinds ni cm first second An An Tm Tm bc hds tgs qc qi qo qs cn vals Nw Nw Kw Kw 2]) (fun _ => wMM g mm b1 b2 b3 b4 b5 b6 b7 b8 b9 b10 b11 b12 b13 b14 b15 b16 b17 kinds ni cm first second An An Tm Tm bc hds tgs qc qi qo qs cn vals Nw Nw Kw Kw 2 ++ ([])) rfl rfl rfl (fun _ => rfl) (fun _ => rfl) (fun _ => rfl) (fun _ => rfl) rfl rfl rfl rfl rfl (Nat.le_of_ble_eq_true rfl) dX6_set_33 ⟨by decide, by decide⟩ (fun r_6 _ h_5 => ?_)
  subst h_5
  refine v_ifz_eq C 41 dX6_set_36 (by decide) (fun h => nomatch h) (fun _ => ?_)
  refine v_iconst C (z := 0) dX6_set_39 ?_
  exact (v_iret C hr hl () (by decide) (by decide) rfl trivial dX6_set_40)
set_option maxHeartbeats 4000000 in
set_option maxRecDepth 100000 in
theorem kX6_set_3 (l : Launch) (g : vG) {mm b1 b2 b3 b4 b5 b6 b7 b8 b9 b10 b11 b12 b13 b14 b15 b16 b17 : Nat} {kinds tgs first second vals qs : Nat → Int} {hds An qi qo Tm Nw Kw ris : Nat → Nat} {ni bc cm cn qc cd : Nat} {x0 : Nat} {y0 : Nat} {z : Int} (hI : MI vals ris cn kinds tgs first second qs hds An qi qo Tm ni bc cm qc) (hx0 : x0 < bc) (hy0 : y0 < ni) (hz : b31 z) (hz3 : -999 ≤ z) (hz4 : z ≤ 999) (hcf : cm = 100) : mI l g yX6_set wsX6_set ({ frames := 3, cells := 0, slots := 0, locals := 65 }) [.ref (mm), .int (iI ((x0 : Nat) : Int)), .int (iI ((y0 : Nat) : Int)), .int (iI (z))] (wMM g mm b1 b2 b3 b4 b5 b6 b7 b8 b9 b10 b11 b12 b13 b14 b15 b16 b17 kinds ni cm first second An An Tm Tm bc hds tgs qc qi qo qs cn vals Nw Nw Kw Kw cd ++ ([])) (fun _ : Unit => wMM g mm b1 b2 b3 b4 b5 b6 b7 b8 b9 b10 b11 b12 b13 b14 b15 b16 b17 kinds ni cm first second An An Tm Tm bc hds tgs qc qi qo qs cn vals Nw Nw Kw Kw 3 ++ ([])) (fun _ _ => True) 0 0 := by
  refine mI_of (cc := cX6_set) (maxL := 4) (ret := (some .int)) (own := RX6) (by decide) rfl rfl (Nat.le_of_ble_eq_true rfl) ?_
  intro p e s m args below meth c A C hr hl hin
  obtain ⟨hni, hbc1, hbc, hcm1, hcm, hcn1, hnm, hqc, hhd, htg, hf, hs, hfc, hsc, hAn, hTm, hao, hpal, hqb, hqi, htk, hkd⟩ := id hI
  have hz1 := hz.1
  have hz2 := hz.2
  refine v_aload_n C dX6_set_0 rfl 0 rfl ?_
  refine v_iload_n C dX6_set_1 rfl 1 rfl ?_
  refine v_iload_n C dX6_set_2 rfl 2 rfl ?_
  refine v_invVI C (As := [.int (iI ((x0 : Nat) : Int)), .int (iI ((y0 : Nat) : Int))]) (q0 := 0) (ci := 6) (kX6_isNowhere_in l g (mm := mm) (b1 := b1) (b2 := b2) (b3 := b3) (b4 := b4) (b5 := b5) (b6 := b6) (b7 := b7) (b8 := b8) (b9 := b9) (b10 := b10) (b11 := b11) (b12 := b12) (b13 := b13) (b14 := b14) (b15 := b15) (b16 := b16) (b17 := b17) (kinds := kinds) (tgs := tgs) (first := first) (second := second) (vals := vals) (qs := qs) (hds := hds) (An := An) (qi := qi) (qo := qo) (Tm := Tm) (Nw := Nw) (Kw := Kw) (ni := ni) (bc := bc) (cm := cm) (cn := cn) (qc := qc) (cd := cd) (ris := ris) (i0 := x0) (j0 := y0) (by omega) (by omega) (by omega) (by omega)) (cwV 2 C.2.2.2.2.1 gX6_set_X6_isNowhere rfl rfl rfl (by decide +kernel) ⟨Nat.le_of_ble_eq_true rfl, Nat.le_of_ble_eq_true rfl⟩) [wMM g mm b1 b2 b3 b4 b5 b6 b7 b8 b9 b10 b11 b12 b13 b14 b15 b16 b17 kinds ni cm first second An An Tm Tm bc hds tgs qc qi qo qs cn vals Nw Nw Kw Kw cd] [0] [] [] (fun _ => [wMM g mm b1 b2 b3 b4 b5 b6 b7 b8 b9 b10 b11 b12 b13 b14 b15 b16 b17 kinds ni cm first second An An Tm Tm bc hds tgs qc qi qo qs cn vals Nw Nw Kw Kw 0]) (fun _ => wMM g mm b1 b2 b3 b4 b5 b6 b7 b8 b9 b10 b11 b12 b13 b14 b15 b16 b17 kinds ni cm first second An An Tm Tm bc hds tgs qc qi qo qs cn vals Nw Nw Kw Kw 0 ++ ([])) rfl rfl rfl (fun _ => rfl) (fun _ => rfl) (fun _ => rfl) (fun _ => rfl) rfl rfl rfl rfl rfl (Nat.le_of_ble_eq_true rfl) dX6_set_3 ⟨by decide, by decide⟩ (fun r_2 _ h_1 => ?_)
  subst h_1
  refine v_ifz_ne C 39 dX6_set_6 (by decide) (fun h => nomatch h) (fun _ => ?_)
  refine v_aload_n C dX6_set_9 rfl 0 rfl ?_
  refine v_iload_n C dX6_set_10 rfl 3 rfl ?_
  refine v_sipush C (z := -999) dX6_set_11 rfl ?_
  refine v_sipush C (z := 999) dX6_set_14 rfl ?_
  refine v_invSI C (As := [.int (iI (z)), .int (iI (-999)), .int (iI (999))]) (kX6_in_t l g  (x := z) (y := -999) (z := 999) ⟨by omega, by omega⟩ (b31_lit _ rfl) (b31_lit _ rfl) (by omega) (by omega)) (cwS 3 C.2.2.2.2.1 gX6_set_X6_in rfl rfl rfl (by decide +kernel) ⟨Nat.le_of_ble_eq_true rfl, Nat.le_of_ble_eq_true rfl⟩) [wMM g mm b1 b2 b3 b4 b5 b6 b7 b8 b9 b10 b11 b12 b13 b14 b15 b16 b17 kinds ni cm first second An An Tm Tm bc hds tgs qc qi qo qs cn vals Nw Nw Kw Kw 0] [] [0] [.ref (mm)] (fun _ => [wMM g mm b1 b2 b3 b4 b5 b6 b7 b8 b9 b10 b11 b12 b13 b14 b15 b16 b17 kinds ni cm first second An An Tm Tm bc hds tgs qc qi qo qs cn vals Nw Nw Kw Kw 0]) (fun _ => wMM g mm b1 b2 b3 b4 b5 b6 b7 b8 b9 b10 b11 b12 b13 b14 b15 b16 b17 kinds ni cm first second An An Tm Tm bc hds tgs qc qi qo qs cn vals Nw Nw Kw Kw 0 ++ ([])) rfl rfl rfl (fun _ => rfl) (fun _ => rfl) (fun _ => rfl) (fun _ => rfl) rfl rfl (Nat.le_of_ble_eq_true rfl) dX6_set_17 ⟨by decide, by decide⟩ (fun r_4 _ h_3 => ?_)
  subst h_3
  refine v_ifz_ne C 27 dX6_set_20 (by decide) (fun _ => ?_) (fun h => nomatch h) 
  refine v_iconst C (z := 3) dX6_set_27 ?_
  refine v_aload_n C dX6_set_28 rfl 0 rfl ?_
  refine v_invVI C (As := []) (q0 := 0) (ci := 6) (kX6_full_y l g (mm := mm) (b1 := b1) (b2 := b2) (b3 := b3) (b4 := b4) (b5 := b5) (b6 := b6) (b7 := b7) (b8 := b8) (b9 := b9) (b10 := b10) (b11 := b11) (b12 := b12) (b13 := b13) (b14 := b14) (b15 := b15) (b16 := b16) (b17 := b17) (kinds := kinds) (tgs := tgs) (first := first) (second := second) (vals := vals) (qs := qs) (hds := hds) (An := An) (qi := qi) (qo := qo) (Tm := Tm) (Nw := Nw) (Kw := Kw) (ni := ni) (bc := bc) (cm := cm) (cn := cn) (qc := qc) (cd := 0) (ris := ris)  (by omega)) (cwV 0 C.2.2.2.2.1 gX6_set_X6_full rfl rfl rfl (by decide +kernel) ⟨Nat.le_of_ble_eq_true rfl, Nat.le_of_ble_eq_true rfl⟩) [wMM g mm b1 b2 b3 b4 b5 b6 b7 b8 b9 b10 b11 b12 b13 b14 b15 b16 b17 kinds ni cm first second An An Tm Tm bc hds tgs qc qi qo qs cn vals Nw Nw Kw Kw 0] [0] [] [.int (iI (3)), .ref (mm)] (fun _ => [wMM g mm b1 b2 b3 b4 b5 b6 b7 b8 b9 b10 b11 b12 b13 b14 b15 b16 b17 kinds ni cm first second An An Tm Tm bc hds tgs qc qi qo qs cn vals Nw Nw Kw Kw 0]) (fun _ => wMM g mm b1 b2 b3 b4 b5 b6 b7 b8 b9 b10 b11 b12 b13 b14 b15 b16 b17 kinds ni cm first second An An Tm Tm bc hds tgs qc qi qo qs cn vals Nw Nw Kw Kw 0 ++ ([])) rfl rfl rfl (fun _ => rfl) (fun _ => rfl) (fun _ => rfl) (fun _ => rfl) rfl rfl rfl rfl rfl (Nat.le_of_ble_eq_true rfl) dX6_set_29 ⟨by decide, by decide⟩ (fun r_6 _ h_5 => ?_)
  subst h_5
  refine v_imul C dX6_set_32 ?_
  refine v_st (st' := [.int (iI (3)), .ref (mm)]) rfl ?_
  refine v_invVI C (As := [.int (iI (3))]) (q0 := 0) (ci := 6) (kX6_fails_p l g (mm := mm) (b1 := b1) (b2 := b2) (b3 := b3) (b4 := b4) (b5 := b5) (b6 := b6) (b7 := b7) (b8 := b8) (b9 := b9) (b10 := b10) (b11 := b11) (b12 := b12) (b13 := b13) (b14 := b14) (b15 := b15) (b16 := b16) (b17 := b17) (kinds := kinds) (tgs := tgs) (first := first) (second := second) (vals := vals) (qs := qs) (hds := hds) (An := An) (qi := qi) (qo := qo) (Tm := Tm) (Nw := Nw) (Kw := Kw) (ni := ni) (bc := bc) (cm := cm) (cn := cn) (qc := qc) (cd := 0) (ris := ris) (q := 3) (by decide)) (cwV 1 C.2.2.2.2.1 gX6_set_X6_fails rfl rfl rfl (by decide +kernel) ⟨Nat.le_of_ble_eq_true rfl, Nat.le_of_ble_eq_true rfl⟩) [wMM g mm b1 b2 b3 b4 b5 b6 b7 b8 b9 b10 b11 b12 b13 b14 b15 b16 b17 kinds ni cm first second An An Tm Tm bc hds tgs qc qi qo qs cn vals Nw Nw Kw Kw 0] [0] [] [] (fun _ => [wMM g mm b1 b2 b3 b4 b5 b6 b7 b8 b9 b10 b11 b12 b13 b14 b15 b16 b17 kinds ni cm first second An An Tm Tm bc hds tgs qc qi qo qs cn vals Nw Nw Kw Kw 3]) (fun _ => wMM g mm b1 b2 b3 b4 b5 b6 b7 b8 b9 b10 b11 b12 b13 b14 b15 b16 b17 kinds ni cm first second An An Tm Tm bc hds tgs qc qi qo qs cn vals Nw Nw Kw Kw 3 ++ ([])) rfl rfl rfl (fun _ => rfl) (fun _ => rfl) (fun _ => rfl) (fun _ => rfl) rfl rfl rfl rfl rfl (Nat.le_of_ble_eq_true rfl) dX6_set_33 ⟨by decide, by decide⟩ (fun r_8 _ h_7 => ?_)
  subst h_7
  refine v_ifz_eq C 41 dX6_set_36 (by decide) (fun h => nomatch h) (fun _ => ?_)
  refine v_iconst C (z := 0) dX6_set_39 ?_
  exact (v_iret C hr hl () (by decide) (by decide) rfl trivial dX6_set_40)
theorem inX6_clear_6 : ∀ w ∈ u_ws RX6 TX6 23, w ∈ wsX6_clear := by decide +kernel
theorem lkX6_clear_40 : Cond.fieldLink RX6 40 "MergeAtelierModel" "heads" "[I" ∈ wsX6_clear := by decide +kernel
theorem lkX6_clear_31 : Cond.fieldLink RX6 31 "MergeAtelierModel" "low" "[J" ∈ wsX6_clear := by decide +kernel
theorem lkX6_clear_34 : Cond.fieldLink RX6 34 "MergeAtelierModel" "high" "[J" ∈ wsX6_clear := by decide +kernel
set_option maxHeartbeats 4000000 in
set_option maxRecDepth 100000 in
theorem kX6_clear_ok (l : Launch) (g : vG) {mm b1 b2 b3 b4 b5 b6 b7 b8 b9 b10 b11 b12 b13 b14 b15 b16 b17 : Nat} {kinds tgs first second vals qs : Nat → Int} {hds An qi qo Tm Nw Kw ris : Nat → Nat} {ni bc cm cn qc cd : Nat} {x0 : Nat} {y0 : Nat} (hI : MI vals ris cn kinds tgs first second qs hds An qi qo Tm ni bc cm qc) (hx0 : x0 < bc) (hy0 : y0 < ni) (hq : ¬ Tm (12 * hds (x0) + y0) = 1) (hcf : cm < 100) : mI l g yX6_clear wsX6_clear ({ frames := 3, cells := 0, slots := 0, locals := 69 }) [.ref (mm), .int (iI ((x0 : Nat) : Int)), .int (iI ((y0 : Nat) : Int))] (wMM g mm b1 b2 b3 b4 b5 b6 b7 b8 b9 b10 b11 b12 b13 b14 b15 b16 b17 kinds ni cm first second An An Tm Tm bc hds tgs qc qi qo qs cn vals Nw Nw Kw Kw cd ++ ([])) (fun _ : Unit => wMM g mm b1 b2 b3 b4 b5 b6 b7 b8 b9 b10 b11 b12 b13 b14 b15 b16 b17 kinds ni (cm + 1) (updZ first (cm) (((hds (x0) : Nat) : Int))) (updZ second (cm) (-1)) (updN An (cm) (An (hds (x0)) ||| 2 ^ cm)) (updN An (cm) (An (hds (x0)) ||| 2 ^ cm)) (updN (rowP Tm cm ni (fun i => Tm (12 * hds (x0) + i))) (12 * cm + y0) (2 ^ 0)) (updN (rowP Tm cm ni (fun i => Tm (12 * hds (x0) + i))) (12 * cm + y0) (2 ^ 0)) bc (updN hds (x0) (cm)) tgs qc qi qo qs cn vals Nw Nw Kw Kw 0 ++ ([])) (fun v _ => v = iI ((cm : Nat) : Int)) 0 0 := by
  refine mI_of (cc := cX6_clear) (maxL := 4) (ret := (some .int)) (own := RX6) (by decide) rfl rfl (Nat.le_of_ble_eq_true rfl) ?_
  intro p e s m args below meth c A C hr hl hin
  obtain ⟨hni, hbc1, hbc, hcm1, hcm, hcn1, hnm, hqc, hhd, htg, hf, hs, hfc, hsc, hAn, hTm, hao, hpal, hqb, hqi, htk, hkd⟩ := id hI
  refine v_aload_n C dX6_clear_0 rfl 0 rfl ?_
  refine v_iload_n C dX6_clear_1 rfl 1 rfl ?_
  refine v_iload_n C dX6_clear_2 rfl 2 rfl ?_
  refine v_invVI C (As := [.int (iI ((x0 : Nat) : Int)), .int (iI ((y0 : Nat) : Int))]) (q0 := 0) (ci := 6) (kX6_isNowhere_in l g (mm := mm) (b1 := b1) (b2 := b2) (b3 := b3) (b4 := b4) (b5 := b5) (b6 := b6) (b7 := b7) (b8 := b8) (b9 := b9) (b10 := b10) (b11 := b11) (b12 := b12) (b13 := b13) (b14 := b14) (b15 := b15) (b16 := b16) (b17 := b17) (kinds := kinds) (tgs := tgs) (first := first) (second := second) (vals := vals) (qs := qs) (hds := hds) (An := An) (qi := qi) (qo := qo) (Tm := Tm) (Nw := Nw) (Kw := Kw) (ni := ni) (bc := bc) (cm := cm) (cn := cn) (qc := qc) (cd := cd) (ris := ris) (i0 := x0) (j0 := y0) (by omega) (by omega) (by omega) (by omega)) (cwV 2 C.2.2.2.2.1 gX6_clear_X6_isNowhere rfl rfl rfl (by decide +kernel) ⟨Nat.le_of_ble_eq_true rfl, Nat.le_of_ble_eq_true rfl⟩) [wMM g mm b1 b2 b3 b4 b5 b6 b7 b8 b9 b10 b11 b12 b13 b14 b15 b16 b17 kinds ni cm first second An An Tm Tm bc hds tgs qc qi qo qs cn vals Nw Nw Kw Kw cd] [0] [] [] (fun _ => [wMM g mm b1 b2 b3 b4 b5 b6 b7 b8 b9 b10 b11 b12 b13 b14 b15 b16 b17 kinds ni cm first second An An Tm Tm bc hds tgs qc qi qo qs cn vals Nw Nw Kw Kw 0]) (fun _ => wMM g mm b1 b2 b3 b4 b5 b6 b7 b8 b9 b10 b11 b12 b13 b14 b15 b16 b17 kinds ni cm first second An An Tm Tm bc hds tgs qc qi qo qs cn vals Nw Nw Kw Kw 0 ++ ([])) rfl rfl rfl (fun _ => rfl) (fun _ => rfl) (fun _ => rfl) (fun _ => rfl) rfl rfl rfl rfl rfl (Nat.le_of_ble_eq_true rfl) dX6_clear_3 ⟨by decide, by decide⟩ (fun r_2 _ h_1 => ?_)
  subst h_1
  refine v_ifz_eq C 11 dX6_clear_6 (by decide) (fun _ => ?_) (fun h => nomatch h) 
  refine v_aload_n C dX6_clear_11 rfl 0 rfl ?_
  refine v_get C 0 (kf := 10) rfl rfl (by decide) inX6_clear_6 lkX6_clear_40 rfl rfl dX6_clear_12 ?_
  have hhx := hhd x0
  refine v_iload_n C dX6_clear_15 rfl 1 rfl ?_
  refine v_ialdn C 8 (x0) rfl rfl (by omega) (by decide) dX6_clear_16 ?_
  refine v_iload_n C dX6_clear_17 rfl 2 rfl ?_
  refine v_invSI C (As := [.int (iI ((hds (x0) : Nat) : Int)), .int (iI ((y0 : Nat) : Int))]) (kX6_at l g  (r0 := hds (x0)) (i0 := y0) ) (cwS 2 C.2.2.2.2.1 gX6_clear_X6_at rfl rfl rfl (by decide +kernel) ⟨Nat.le_of_ble_eq_true rfl, Nat.le_of_ble_eq_true rfl⟩) [wMM g mm b1 b2 b3 b4 b5 b6 b7 b8 b9 b10 b11 b12 b13 b14 b15 b16 b17 kinds ni cm first second An An Tm Tm bc hds tgs qc qi qo qs cn vals Nw Nw Kw Kw 0] [] [0] [] (fun _ => [wMM g mm b1 b2 b3 b4 b5 b6 b7 b8 b9 b10 b11 b12 b13 b14 b15 b16 b17 kinds ni cm first second An An Tm Tm bc hds tgs qc qi qo qs cn vals Nw Nw Kw Kw 0]) (fun _ => wMM g mm b1 b2 b3 b4 b5 b6 b7 b8 b9 b10 b11 b12 b13 b14 b15 b16 b17 kinds ni cm first second An An Tm Tm bc hds tgs qc qi qo qs cn vals Nw Nw Kw Kw 0 ++ ([])) rfl rfl rfl (fun _ => rfl) (fun _ => rfl) (fun _ => rfl) (fun _ => rfl) rfl rfl (Nat.le_of_ble_eq_true rfl) dX6_clear_18 ⟨by decide, by decide⟩ (fun r_4 _ h_3 => ?_)
  subst h_3
  refine v_istore_n C [(3, .int (iI ((12 * (hds (x0)) + y0 : Nat) : Int))), (0, .ref (mm)), (1, .int (iI ((x0 : Nat) : Int))), (2, .int (iI ((y0 : Nat) : Int)))] dX6_clear_21 rfl (by decide) rfl ?_
  refine v_aload_n C dX6_clear_22 rfl 1 rfl ?_
  refine v_aload_n C dX6_clear_23 rfl 1 rfl ?_
  refine v_get C 0 (kf := 7) rfl rfl (by decide) inX6_clear_6 lkX6_clear_31 rfl rfl dX6_clear_24 ?_
  refine v_iload_n C dX6_clear_27 rfl 0 rfl ?_
  refine v_lald C 6 (12 * (hds (x0)) + y0) rfl rfl (by omega) (by decide) dX6_clear_28 ?_
  refine v_lconst C (v := lN 1) dX6_clear_29 rfl ?_
  refine v_lcmp C dX6_clear_30 ?_
  refine v_ifl_ne C 49 dX6_clear_31 (by decide) (fun c_5 => ?_) (fun c_5 => ?_)
  ·
    refine v_iconst C (z := 3) dX6_clear_49 ?_
    refine v_aload_n C dX6_clear_50 rfl 1 rfl ?_
    refine v_invVI C (As := []) (q0 := 0) (ci := 6) (kX6_full_n l g (mm := mm) (b1 := b1) (b2 := b2) (b3 := b3) (b4 := b4) (b5 := b5) (b6 := b6) (b7 := b7) (b8 := b8) (b9 := b9) (b10 := b10) (b11 := b11) (b12 := b12) (b13 := b13) (b14 := b14) (b15 := b15) (b16 := b16) (b17 := b17) (kinds := kinds) (tgs := tgs) (first := first) (second := second) (vals := vals) (qs := qs) (hds := hds) (An := An) (qi := qi) (qo := qo) (Tm := Tm) (Nw := Nw) (Kw := Kw) (ni := ni) (bc := bc) (cm := cm) (cn := cn) (qc := qc) (cd := 0) (ris := ris)  (by omega)) (cwV 0 C.2.2.2.2.1 gX6_clear_X6_full rfl rfl rfl (by decide +kernel) ⟨Nat.le_of_ble_eq_true rfl, Nat.le_of_ble_eq_true rfl⟩) [wMM g mm b1 b2 b3 b4 b5 b6 b7 b8 b9 b10 b11 b12 b13 b14 b15 b16 b17 kinds ni cm first second An An Tm Tm bc hds tgs qc qi qo qs cn vals Nw Nw Kw Kw 0] [0] [] [.int (iI (3)), .ref (mm)] (fun _ => [wMM g mm b1 b2 b3 b4 b5 b6 b7 b8 b9 b10 b11 b12 b13 b14 b15 b16 b17 kinds ni cm first second An An Tm Tm bc hds tgs qc qi qo qs cn vals Nw Nw Kw Kw 0]) (fun _ => wMM g mm b1 b2 b3 b4 b5 b6 b7 b8 b9 b10 b11 b12 b13 b14 b15 b16 b17 kinds ni cm first second An An Tm Tm bc hds tgs qc qi qo qs cn vals Nw Nw Kw Kw 0 ++ ([])) rfl rfl rfl (fun _ => rfl) (fun _ => rfl) (fun _ => rfl) (fun _ => rfl) rfl rfl rfl rfl rfl (Nat.le_of_ble_eq_true rfl) dX6_clear_51 ⟨by decide, by decide⟩ (fun r_7 _ h_6 => ?_)
    subst h_6
    refine v_imul C dX6_clear_54 ?_
    refine v_st (st' := [.int (iI (0)), .ref (mm)]) rfl ?_
    refine v_invVI C (As := [.int (iI (0))]) (q0 := 0) (ci := 6) (kX6_fails_z l g (mm := mm) (b1 := b1) (b2 := b2) (b3 := b3) (b4 := b4) (b5 := b5) (b6 := b6) (b7 := b7) (b8 := b8) (b9 := b9) (b10 := b10) (b11 := b11) (b12 := b12) (b13 := b13) (b14 := b14) (b15 := b15) (b16 := b16) (b17 := b17) (kinds := kinds) (tgs := tgs) (first := first) (second := second) (vals := vals) (qs := qs) (hds := hds) (An := An) (qi := qi) (qo := qo) (Tm := Tm) (Nw := Nw) (Kw := Kw) (ni := ni) (bc := bc) (cm := cm) (cn := cn) (qc := qc) (cd := 0) (ris := ris)  ) (cwV 1 C.2.2.2.2.1 gX6_clear_X6_fails rfl rfl rfl (by decide +kernel) ⟨Nat.le_of_ble_eq_true rfl, Nat.le_of_ble_eq_true rfl⟩) [wMM g mm b1 b2 b3 b4 b5 b6 b7 b8 b9 b10 b11 b12 b13 b14 b15 b16 b17 kinds ni cm first second An An Tm Tm bc hds tgs qc qi qo qs cn vals Nw Nw Kw Kw 0] [0] [] [] (fun _ => [wMM g mm b1 b2 b3 b4 b5 b6 b7 b8 b9 b10 b11 b12 b13 b14 b15 b16 b17 kinds ni cm first second An An Tm Tm bc hds tgs qc qi qo qs cn vals Nw Nw Kw Kw 0]) (fun _ => wMM g mm b1 b2 b3 b4 b5 b6 b7 b8 b9 b10 b11 b12 b13 b14 b15 b16 b17 kinds ni cm first second An An Tm Tm bc hds tgs qc qi qo qs cn vals Nw Nw Kw Kw 0 ++ ([])) rfl rfl rfl (fun _ => rfl) (fun _ => rfl) (fun _ => rfl) (fun _ => rfl) rfl rfl rfl rfl rfl (Nat.le_of_ble_eq_true rfl) dX6_clear_55 ⟨by decide, by decide⟩ (fun r_9 _ h_8 => ?_)
    subst h_8
    refine v_ifz_eq C 63 dX6_clear_58 (by decide) (fun _ => ?_) (fun h => nomatch h) 
    refine v_aload_n C dX6_clear_63 rfl 1 rfl ?_
    refine v_iload_n C dX6_clear_64 rfl 2 rfl ?_
    refine v_iload_n C dX6_clear_65 rfl 3 rfl ?_
    refine v_iconst C (z := 0) dX6_clear_66 ?_
    refine v_invVI C (As := [.int (iI ((x0 : Nat) : Int)), .int (iI ((y0 : Nat) : Int)), .int (iI (0))]) (q0 := 0) (ci := 6) (kX6_changes l g (mm := mm) (b1 := b1) (b2 := b2) (b3 := b3) (b4 := b4) (b5 := b5) (b6 := b6) (b7 := b7) (b8 := b8) (b9 := b9) (b10 := b10) (b11 := b11) (b12 := b12) (b13 := b13) (b14 := b14) (b15 := b15) (b16 := b16) (b17 := b17) (kinds := kinds) (tgs := tgs) (first := first) (second := second) (vals := vals) (qs := qs) (hds := hds) (An := An) (qi := qi) (qo := qo) (Tm := Tm) (Nw := Nw) (Kw := Kw) (ni := ni) (bc := bc) (cm := cm) (cn := cn) (qc := qc) (cd := 0) (ris := ris) (b0 := x0) (i0 := y0) (sd := 0) (by omega) (by omega) (by omega) (by omega) (by omega) (by omega)) (cwV 3 C.2.2.2.2.1 gX6_clear_X6_changes rfl rfl rfl (by decide +kernel) ⟨Nat.le_of_ble_eq_true rfl, Nat.le_of_ble_eq_true rfl⟩) [wMM g mm b1 b2 b3 b4 b5 b6 b7 b8 b9 b10 b11 b12 b13 b14 b15 b16 b17 kinds ni cm first second An An Tm Tm bc hds tgs qc qi qo qs cn vals Nw Nw Kw Kw 0] [0] [] [] (fun _ => [wMM g mm b1 b2 b3 b4 b5 b6 b7 b8 b9 b10 b11 b12 b13 b14 b15 b16 b17 kinds ni (cm + 1) (updZ first (cm) (((hds (x0) : Nat) : Int))) (updZ second (cm) (-1)) (updN An (cm) (An (hds (x0)) ||| 2 ^ cm)) (updN An (cm) (An (hds (x0)) ||| 2 ^ cm)) (updN (rowP Tm cm ni (fun i => Tm (12 * hds (x0) + i))) (12 * cm + y0) (2 ^ 0)) (updN (rowP Tm cm ni (fun i => Tm (12 * hds (x0) + i))) (12 * cm + y0) (2 ^ 0)) bc (updN hds (x0) (cm)) tgs qc qi qo qs cn vals Nw Nw Kw Kw 0]) (fun _ => wMM g mm b1 b2 b3 b4 b5 b6 b7 b8 b9 b10 b11 b12 b13 b14 b15 b16 b17 kinds ni (cm + 1) (updZ first (cm) (((hds (x0) : Nat) : Int))) (updZ second (cm) (-1)) (updN An (cm) (An (hds (x0)) ||| 2 ^ cm)) (updN An (cm) (An (hds (x0)) ||| 2 ^ cm)) (updN (rowP Tm cm ni (fun i => Tm (12 * hds (x0) + i))) (12 * cm + y0) (2 ^ 0)) (updN (rowP Tm cm ni (fun i => Tm (12 * hds (x0) + i))) (12 * cm + y0) (2 ^ 0)) bc (updN hds (x0) (cm)) tgs qc qi qo qs cn vals Nw Nw Kw Kw 0 ++ ([])) rfl rfl rfl (fun _ => rfl) (fun _ => rfl) (fun _ => rfl) (fun _ => rfl) rfl rfl rfl rfl rfl (Nat.le_of_ble_eq_true rfl) dX6_clear_67 ⟨by decide, by decide⟩ (fun r_11 _ h_10 => ?_)
    subst h_10
    exact (v_iret C hr hl () (by decide) (by decide) rfl rfl dX6_clear_70)
  ·
    refine v_aload_n C dX6_clear_34 rfl 1 rfl ?_
    refine v_get C 0 (kf := 8) rfl rfl (by decide) inX6_clear_6 lkX6_clear_34 rfl rfl dX6_clear_35 ?_
    refine v_iload_n C dX6_clear_38 rfl 0 rfl ?_
    refine v_lald C 7 (12 * (hds (x0)) + y0) rfl rfl (by omega) (by decide) dX6_clear_39 ?_
    refine v_lconst C (v := lN 0) dX6_clear_40 rfl ?_
    refine v_lcmp C dX6_clear_41 ?_
    refine v_ifl_ne C 49 dX6_clear_42 (by decide) (fun c_12 => ?_) (fun c_12 => ?_)
    ·
      refine v_iconst C (z := 3) dX6_clear_49 ?_
      refine v_aload_n C dX6_clear_50 rfl 1 rfl ?_
      refine v_invVI C (As := []) (q0 := 0) (ci := 6) (kX6_full_n l g (mm := mm) (b1 := b1) (b2 := b2) (b3 := b3) (b4 := b4) (b5 := b5) (b6 := b6) (b7 := b7) (b8 := b8) (b9 := b9) (b10 := b10) (b11 := b11) (b12 := b12) (b13 := b13) (b14 := b14) (b15 := b15) (b16 := b16) (b17 := b17) (kinds := kinds) (tgs := tgs) (first := first) (second := second) (vals := vals) (qs := qs) (hds := hds) (An := An) (qi := qi) (qo := qo) (Tm := Tm) (Nw := Nw) (Kw := Kw) (ni := ni) (bc := bc) (cm := cm) (cn := cn) (qc := qc) (cd := 0) (ris := ris)  (by omega)) (cwV 0 C.2.2.2.2.1 gX6_clear_X6_full rfl rfl rfl (by decide +kernel) ⟨Nat.le_of_ble_eq_true rfl, Nat.le_of_ble_eq_true rfl⟩) [wMM g mm b1 b2 b3 b4 b5 b6 b7 b8 b9 b10 b11 b12 b13 b14 b15 b16 b17 kinds ni cm first second An An Tm Tm bc hds tgs qc qi qo qs cn vals Nw Nw Kw Kw 0] [0] [] [.int (iI (3)), .ref (mm)] (fun _ => [wMM g mm b1 b2 b3 b4 b5 b6 b7 b8 b9 b10 b11 b12 b13 b14 b15 b16 b17 kinds ni cm first second An An Tm Tm bc hds tgs qc qi qo qs cn vals Nw Nw Kw Kw 0]) (fun _ => wMM g mm b1 b2 b3 b4 b5 b6 b7 b8 b9 b10 b11 b12 b13 b14 b15 b16 b17 kinds ni cm first second An An Tm Tm bc hds tgs qc qi qo qs cn vals Nw Nw Kw Kw 0 ++ ([])) rfl rfl rfl (fun _ => rfl) (fun _ => rfl) (fun _ => rfl) (fun _ => rfl) rfl rfl rfl rfl rfl (Nat.le_of_ble_eq_true rfl) dX6_clear_51 ⟨by decide, by decide⟩ (fun r_14 _ h_13 => ?_)
      subst h_13
      refine v_imul C dX6_clear_54 ?_
      refine v_st (st' := [.int (iI (0)), .ref (mm)]) rfl ?_
      refine v_invVI C (As := [.int (iI (0))]) (q0 := 0) (ci := 6) (kX6_fails_z l g (mm := mm) (b1 := b1) (b2 := b2) (b3 := b3) (b4 := b4) (b5 := b5) (b6 := b6) (b7 := b7) (b8 := b8) (b9 := b9) (b10 := b10) (b11 := b11) (b12 := b12) (b13 := b13) (b14 := b14) (b15 := b15) (b16 := b16) (b17 := b17) (kinds := kinds) (tgs := tgs) (first := first) (second := second) (vals := vals) (qs := qs) (hds := hds) (An := An) (qi := qi) (qo := qo) (Tm := Tm) (Nw := Nw) (Kw := Kw) (ni := ni) (bc := bc) (cm := cm) (cn := cn) (qc := qc) (cd := 0) (ris := ris)  ) (cwV 1 C.2.2.2.2.1 gX6_clear_X6_fails rfl rfl rfl (by decide +kernel) ⟨Nat.le_of_ble_eq_true rfl, Nat.le_of_ble_eq_true rfl⟩) [wMM g mm b1 b2 b3 b4 b5 b6 b7 b8 b9 b10 b11 b12 b13 b14 b15 b16 b17 kinds ni cm first second An An Tm Tm bc hds tgs qc qi qo qs cn vals Nw Nw Kw Kw 0] [0] [] [] (fun _ => [wMM g mm b1 b2 b3 b4 b5 b6 b7 b8 b9 b10 b11 b12 b13 b14 b15 b16 b17 kinds ni cm first second An An Tm Tm bc hds tgs qc qi qo qs cn vals Nw Nw Kw Kw 0]) (fun _ => wMM g mm b1 b2 b3 b4 b5 b6 b7 b8 b9 b10 b11 b12 b13 b14 b15 b16 b17 kinds ni cm first second An An Tm Tm bc hds tgs qc qi qo qs cn vals Nw Nw Kw Kw 0 ++ ([])) rfl rfl rfl (fun _ => rfl) (fun _ => rfl) (fun _ => rfl) (fun _ => rfl) rfl rfl rfl rfl rfl (Nat.le_of_ble_eq_true rfl) dX6_clear_55 ⟨by decide, by decide⟩ (fun r_16 _ h_15 => ?_)
      subst h_15
      refine v_ifz_eq C 63 dX6_clear_58 (by decide) (fun _ => ?_) (fun h => nomatch h) 
      refine v_aload_n C dX6_clear_63 rfl 1 rfl ?_
      refine v_iload_n C dX6_clear_64 rfl 2 rfl ?_
      refine v_iload_n C dX6_clear_65 rfl 3 rfl ?_
      refine v_iconst C (z := 0) dX6_clear_66 ?_
      refine v_invVI C (As := [.int (iI ((x0 : Nat) : Int)), .int (iI ((y0 : Nat) : Int)), .int (iI (0))]) (q0 := 0) (ci := 6) (kX6_changes l g (mm := mm) (b1 := b1) (b2 := b2) (b3 := b3) (b4 := b4) (b5 := b5) (b6 := b6) (b7 := b7) (b8 := b8) (b9 := b9) (b10 := b10) (b11 := b11) (b12 := b12) (b13 := b13) (b14 := b14) (b15 := b15) (b16 := b16) (b17 := b17) (kinds := kinds) (tgs := tgs) (first := first) (second := second) (vals := vals) (qs := qs) (hds := hds) (An := An) (qi := qi) (qo := qo) (Tm := Tm) (Nw := Nw) (Kw := Kw) (ni := ni) (bc := bc) (cm := cm) (cn := cn) (qc := qc) (cd := 0) (ris := ris) (b0 := x0) (i0 := y0) (sd := 0) (by omega) (by omega) (by omega) (by omega) (by omega) (by omega)) (cwV 3 C.2.2.2.2.1 gX6_clear_X6_changes rfl rfl rfl (by decide +kernel) ⟨Nat.le_of_ble_eq_true rfl, Nat.le_of_ble_eq_true rfl⟩) [wMM g mm b1 b2 b3 b4 b5 b6 b7 b8 b9 b10 b11 b12 b13 b14 b15 b16 b17 kinds ni cm first second An An Tm Tm bc hds tgs qc qi qo qs cn vals Nw Nw Kw Kw 0] [0] [] [] (fun _ => [wMM g mm b1 b2 b3 b4 b5 b6 b7 b8 b9 b10 b11 b12 b13 b14 b15 b16 b17 kinds ni (cm + 1) (updZ first (cm) (((hds (x0) : Nat) : Int))) (updZ second (cm) (-1)) (updN An (cm) (An (hds (x0)) ||| 2 ^ cm)) (updN An (cm) (An (hds (x0)) ||| 2 ^ cm)) (updN (rowP Tm cm ni (fun i => Tm (12 * hds (x0) + i))) (12 * cm + y0) (2 ^ 0)) (updN (rowP Tm cm ni (fun i => Tm (12 * hds (x0) + i))) (12 * cm + y0) (2 ^ 0)) bc (updN hds (x0) (cm)) tgs qc qi qo qs cn vals Nw Nw Kw Kw 0]) (fun _ => wMM g mm b1 b2 b3 b4 b5 b6 b7 b8 b9 b10 b11 b12 b13 b14 b15 b16 b17 kinds ni (cm + 1) (updZ first (cm) (((hds (x0) : Nat) : Int))) (updZ second (cm) (-1)) (updN An (cm) (An (hds (x0)) ||| 2 ^ cm)) (updN An (cm) (An (hds (x0)) ||| 2 ^ cm)) (updN (rowP Tm cm ni (fun i => Tm (12 * hds (x0) + i))) (12 * cm + y0) (2 ^ 0)) (updN (rowP Tm cm ni (fun i => Tm (12 * hds (x0) + i))) (12 * cm + y0) (2 ^ 0)) bc (updN hds (x0) (cm)) tgs qc qi qo qs cn vals Nw Nw Kw Kw 0 ++ ([])) rfl rfl rfl (fun _ => rfl) (fun _ => rfl) (fun _ => rfl) (fun _ => rfl) rfl rfl rfl rfl rfl (Nat.le_of_ble_eq_true rfl) dX6_clear_67 ⟨by decide, by decide⟩ (fun r_18 _ h_17 => ?_)
      subst h_17
      exact (v_iret C hr hl () (by decide) (by decide) rfl rfl dX6_clear_70)
    ·
      exact absurd (m_eq (hTm _) (by decide) c_5 c_12) hq
set_option maxHeartbeats 4000000 in
set_option maxRecDepth 100000 in
theorem kX6_clear_a (l : Launch) (g : vG) {mm b1 b2 b3 b4 b5 b6 b7 b8 b9 b10 b11 b12 b13 b14 b15 b16 b17 : Nat} {kinds tgs first second vals qs : Nat → Int} {hds An qi qo Tm Nw Kw ris : Nat → Nat} {ni bc cm cn qc cd : Nat} {x : Int} {y : Int} (hI : MI vals ris cn kinds tgs first second qs hds An qi qo Tm ni bc cm qc) (hx : b31 x) (hqx : ¬ (0 ≤ x ∧ x < ((bc : Nat) : Int))) (hy : b31 y)  : mI l g yX6_clear wsX6_clear ({ frames := 3, cells := 0, slots := 0, locals := 65 }) [.ref (mm), .int (iI (x)), .int (iI (y))] (wMM g mm b1 b2 b3 b4 b5 b6 b7 b8 b9 b10 b11 b12 b13 b14 b15 b16 b17 kinds ni cm first second An An Tm Tm bc hds tgs qc qi qo qs cn vals Nw Nw Kw Kw cd ++ ([])) (fun _ : Unit => wMM g mm b1 b2 b3 b4 b5 b6 b7 b8 b9 b10 b11 b12 b13 b14 b15 b16 b17 kinds ni cm first second An An Tm Tm bc hds tgs qc qi qo qs cn vals Nw Nw Kw Kw 1 ++ ([])) (fun _ _ => True) 0 0 := by
  refine mI_of (cc := cX6_clear) (maxL := 4) (ret := (some .int)) (own := RX6) (by decide) rfl rfl (Nat.le_of_ble_eq_true rfl) ?_
  intro p e s m args below meth c A C hr hl hin
  obtain ⟨hni, hbc1, hbc, hcm1, hcm, hcn1, hnm, hqc, hhd, htg, hf, hs, hfc, hsc, hAn, hTm, hao, hpal, hqb, hqi, htk, hkd⟩ := id hI
  have hx1 := hx.1
  have hx2 := hx.2
  have hy1 := hy.1
  have hy2 := hy.2
  refine v_aload_n C dX6_clear_0 rfl 0 rfl ?_
  refine v_iload_n C dX6_clear_1 rfl 1 rfl ?_
  refine v_iload_n C dX6_clear_2 rfl 2 rfl ?_
  refine v_invVI C (As := [.int (iI (x)), .int (iI (y))]) (q0 := 0) (ci := 6) (kX6_isNowhere_a l g (mm := mm) (b1 := b1) (b2 := b2) (b3 := b3) (b4 := b4) (b5 := b5) (b6 := b6) (b7 := b7) (b8 := b8) (b9 := b9) (b10 := b10) (b11 := b11) (b12 := b12) (b13 := b13) (b14 := b14) (b15 := b15) (b16 := b16) (b17 := b17) (kinds := kinds) (tgs := tgs) (first := first) (second := second) (vals := vals) (qs := qs) (hds := hds) (An := An) (qi := qi) (qo := qo) (Tm := Tm) (Nw := Nw) (Kw := Kw) (ni := ni) (bc := bc) (cm := cm) (cn := cn) (qc := qc) (cd := cd) (ris := ris) (x := x) (y := y) ⟨by omega, by omega⟩ (by omega) (by omega) (by omega)) (cwV 2 C.2.2.2.2.1 gX6_clear_X6_isNowhere rfl rfl rfl (by decide +kernel) ⟨Nat.le_of_ble_eq_true rfl, Nat.le_of_ble_eq_true rfl⟩) [wMM g mm b1 b2 b3 b4 b5 b6 b7 b8 b9 b10 b11 b12 b13 b14 b15 b16 b17 kinds ni cm first second An An Tm Tm bc hds tgs qc qi qo qs cn vals Nw Nw Kw Kw cd] [0] [] [] (fun _ => [wMM g mm b1 b2 b3 b4 b5 b6 b7 b8 b9 b10 b11 b12 b13 b14 b15 b16 b17 kinds ni cm first second An An Tm Tm bc hds tgs qc qi qo qs cn vals Nw Nw Kw Kw 1]) (fun _ => wMM g mm b1 b2 b3 b4 b5 b6 b7 b8 b9 b10 b11 b12 b13 b14 b15 b16 b17 kinds ni cm first second An An Tm Tm bc hds tgs qc qi qo qs cn vals Nw Nw Kw Kw 1 ++ ([])) rfl rfl rfl (fun _ => rfl) (fun _ => rfl) (fun _ => rfl) (fun _ => rfl) rfl rfl rfl rfl rfl (Nat.le_of_ble_eq_true rfl) dX6_clear_3 ⟨by decide, by decide⟩ (fun r_2 _ h_1 => ?_)
  subst h_1
  refine v_ifz_eq C 11 dX6_clear_6 (by decide) (fun h => nomatch h) (fun _ => ?_)
  refine v_iconst C (z := 0) dX6_clear_9 ?_
  exact (v_iret C hr hl () (by decide) (by decide) rfl trivial dX6_clear_10)
set_option maxHeartbeats 4000000 in
set_option maxRecDepth 100000 in
theorem kX6_clear_b (l : Launch) (g : vG) {mm b1 b2 b3 b4 b5 b6 b7 b8 b9 b10 b11 b12 b13 b14 b15 b16 b17 : Nat} {kinds tgs first second vals qs : Nat → Int} {hds An qi qo Tm Nw Kw ris : Nat → Nat} {ni bc cm cn qc cd : Nat} {x0 : Nat} {y : Int} (hI : MI vals ris cn kinds tgs first second qs hds An qi qo Tm ni bc cm qc) (hx0 : x0 < bc) (hy : b31 y) (hqy : ¬ (0 ≤ y ∧ y < ((ni : Nat) : Int)))  : mI l g yX6_clear wsX6_clear ({ frames := 3, cells := 0, slots := 0, locals := 65 }) [.ref (mm), .int (iI ((x0 : Nat) : Int)), .int (iI (y))] (wMM g mm b1 b2 b3 b4 b5 b6 b7 b8 b9 b10 b11 b12 b13 b14 b15 b16 b17 kinds ni cm first second An An Tm Tm bc hds tgs qc qi qo qs cn vals Nw Nw Kw Kw cd ++ ([])) (fun _ : Unit => wMM g mm b1 b2 b3 b4 b5 b6 b7 b8 b9 b10 b11 b12 b13 b14 b15 b16 b17 kinds ni cm first second An An Tm Tm bc hds tgs qc qi qo qs cn vals Nw Nw Kw Kw 1 ++ ([])) (fun _ _ => True) 0 0 := by
  refine mI_of (cc := cX6_clear) (maxL := 4) (ret := (some .int)) (own := RX6) (by decide) rfl rfl (Nat.le_of_ble_eq_true rfl) ?_
  intro p e s m args below meth c A C hr hl hin
  obtain ⟨hni, hbc1, hbc, hcm1, hcm, hcn1, hnm, hqc, hhd, htg, hf, hs, hfc, hsc, hAn, hTm, hao, hpal, hqb, hqi, htk, hkd⟩ := id hI
  have hy1 := hy.1
  have hy2 := hy.2
  refine v_aload_n C dX6_clear_0 rfl 0 rfl ?_
  refine v_iload_n C dX6_clear_1 rfl 1 rfl ?_
  refine v_iload_n C dX6_clear_2 rfl 2 rfl ?_
  refine v_invVI C (As := [.int (iI ((x0 : Nat) : Int)), .int (iI (y))]) (q0 := 0) (ci := 6) (kX6_isNowhere_b l g (mm := mm) (b1 := b1) (b2 := b2) (b3 := b3) (b4 := b4) (b5 := b5) (b6 := b6) (b7 := b7) (b8 := b8) (b9 := b9) (b10 := b10) (b11 := b11) (b12 := b12) (b13 := b13) (b14 := b14) (b15 := b15) (b16 := b16) (b17 := b17) (kinds := kinds) (tgs := tgs) (first := first) (second := second) (vals := vals) (qs := qs) (hds := hds) (An := An) (qi := qi) (qo := qo) (Tm := Tm) (Nw := Nw) (Kw := Kw) (ni := ni) (bc := bc) (cm := cm) (cn := cn) (qc := qc) (cd := cd) (ris := ris) (i0 := x0) (y := y) (by omega) ⟨by omega, by omega⟩ (by omega) (by omega) (by omega)) (cwV 2 C.2.2.2.2.1 gX6_clear_X6_isNowhere rfl rfl rfl (by decide +kernel) ⟨Nat.le_of_ble_eq_true rfl, Nat.le_of_ble_eq_true rfl⟩) [wMM g mm b1 b2 b3 b4 b5 b6 b7 b8 b9 b10 b11 b12 b13 b14 b15 b16 b17 kinds ni cm first second An An Tm Tm bc hds tgs qc qi qo qs cn vals Nw Nw Kw Kw cd] [0] [] [] (fun _ => [wMM g mm b1 b2 b3 b4 b5 b6 b7 b8 b9 b10 b11 b12 b13 b14 b15 b16 b17 kinds ni cm first second An An Tm Tm bc hds tgs qc qi qo qs cn vals Nw Nw Kw Kw 1]) (fun _ => wMM g mm b1 b2 b3 b4 b5 b6 b7 b8 b9 b10 b11 b12 b13 b14 b15 b16 b17 kinds ni cm first second An An Tm Tm bc hds tgs qc qi qo qs cn vals Nw Nw Kw Kw 1 ++ ([])) rfl rfl rfl (fun _ => rfl) (fun _ => rfl) (fun _ => rfl) (fun _ => rfl) rfl rfl rfl rfl rfl (Nat.le_of_ble_eq_true rfl) dX6_clear_3 ⟨by decide, by decide⟩ (fun r_2 _ h_1 => ?_)
  subst h_1
  refine v_ifz_eq C 11 dX6_clear_6 (by decide) (fun h => nomatch h) (fun _ => ?_)
  refine v_iconst C (z := 0) dX6_clear_9 ?_
  exact (v_iret C hr hl () (by decide) (by decide) rfl trivial dX6_clear_10)
set_option maxHeartbeats 4000000 in
set_option maxRecDepth 100000 in
theorem kX6_clear_2 (l : Launch) (g : vG) {mm b1 b2 b3 b4 b5 b6 b7 b8 b9 b10 b11 b12 b13 b14 b15 b16 b17 : Nat} {kinds tgs first second vals qs : Nat → Int} {hds An qi qo Tm Nw Kw ris : Nat → Nat} {ni bc cm cn qc cd : Nat} {x0 : Nat} {y0 : Nat} (hI : MI vals ris cn kinds tgs first second qs hds An qi qo Tm ni bc cm qc) (hx0 : x0 < bc) (hy0 : y0 < ni) (hq : Tm (12 * hds (x0) + y0) = 1) : mI l g yX6_clear wsX6_clear ({ frames := 3, cells := 0, slots := 0, locals := 65 }) [.ref (mm), .int (iI ((x0 : Nat) : Int)), .int (iI ((y0 : Nat) : Int))] (wMM g mm b1 b2 b3 b4 b5 b6 b7 b8 b9 b10 b11 b12 b13 b14 b15 b16 b17 kinds ni cm first second An An Tm Tm bc hds tgs qc qi qo qs cn vals Nw Nw Kw Kw cd ++ ([])) (fun _ : Unit => wMM g mm b1 b2 b3 b4 b5 b6 b7 b8 b9 b10 b11 b12 b13 b14 b15 b16 b17 kinds ni cm first second An An Tm Tm bc hds tgs qc qi qo qs cn vals Nw Nw Kw Kw 2 ++ ([])) (fun _ _ => True) 0 0 := by
  refine mI_of (cc := cX6_clear) (maxL := 4) (ret := (some .int)) (own := RX6) (by decide) rfl rfl (Nat.le_of_ble_eq_true rfl) ?_
  intro p e s m args below meth c A C hr hl hin
  obtain ⟨hni, hbc1, hbc, hcm1, hcm, hcn1, hnm, hqc, hhd, htg, hf, hs, hfc, hsc, hAn, hTm, hao, hpal, hqb, hqi, htk, hkd⟩ := id hI
  refine v_aload_n C dX6_clear_0 rfl 0 rfl ?_
  refine v_iload_n C dX6_clear_1 rfl 1 rfl ?_
  refine v_iload_n C dX6_clear_2 rfl 2 rfl ?_
  refine v_invVI C (As := [.int (iI ((x0 : Nat) : Int)), .int (iI ((y0 : Nat) : Int))]) (q0 := 0) (ci := 6) (kX6_isNowhere_in l g (mm := mm) (b1 := b1) (b2 := b2) (b3 := b3) (b4 := b4) (b5 := b5) (b6 := b6) (b7 := b7) (b8 := b8) (b9 := b9) (b10 := b10) (b11 := b11) (b12 := b12) (b13 := b13) (b14 := b14) (b15 := b15) (b16 := b16) (b17 := b17) (kinds := kinds) (tgs := tgs) (first := first) (second := second) (vals := vals) (qs := qs) (hds := hds) (An := An) (qi := qi) (qo := qo) (Tm := Tm) (Nw := Nw) (Kw := Kw) (ni := ni) (bc := bc) (cm := cm) (cn := cn) (qc := qc) (cd := cd) (ris := ris) (i0 := x0) (j0 := y0) (by omega) (by omega) (by omega) (by omega)) (cwV 2 C.2.2.2.2.1 gX6_clear_X6_isNowhere rfl rfl rfl (by decide +kernel) ⟨Nat.le_of_ble_eq_true rfl, Nat.le_of_ble_eq_true rfl⟩) [wMM g mm b1 b2 b3 b4 b5 b6 b7 b8 b9 b10 b11 b12 b13 b14 b15 b16 b17 kinds ni cm first second An An Tm Tm bc hds tgs qc qi qo qs cn vals Nw Nw Kw Kw cd] [0] [] [] (fun _ => [wMM g mm b1 b2 b3 b4 b5 b6 b7 b8 b9 b10 b11 b12 b13 b14 b15 b16 b17 kinds ni cm first second An An Tm Tm bc hds tgs qc qi qo qs cn vals Nw Nw Kw Kw 0]) (fun _ => wMM g mm b1 b2 b3 b4 b5 b6 b7 b8 b9 b10 b11 b12 b13 b14 b15 b16 b17 kinds ni cm first second An An Tm Tm bc hds tgs qc qi qo qs cn vals Nw Nw Kw Kw 0 ++ ([])) rfl rfl rfl (fun _ => rfl) (fun _ => rfl) (fun _ => rfl) (fun _ => rfl) rfl rfl rfl rfl rfl (Nat.le_of_ble_eq_true rfl) dX6_clear_3 ⟨by decide, by decide⟩ (fun r_2 _ h_1 => ?_)
  subst h_1
  refine v_ifz_eq C 11 dX6_clear_6 (by decide) (fun _ => ?_) (fun h => nomatch h) 
  refine v_aload_n C dX6_clear_11 rfl 0 rfl ?_
  refine v_get C 0 (kf := 10) rfl rfl (by decide) inX6_clear_6 lkX6_clear_40 rfl rfl dX6_clear_12 ?_
  have hhx := hhd x0
  refine v_iload_n C dX6_clear_15 rfl 1 rfl ?_
  refine v_ialdn C 8 (x0) rfl rfl (by omega) (by decide) dX6_clear_16 ?_
  refine v_iload_n C dX6_clear_17 rfl 2 rfl ?_
  refine v_invSI C (As := [.int (iI ((hds (x0) : Nat) : Int)), .int (iI ((y0 : Nat) : Int))]) (kX6_at l g  (r0 := hds (x0)) (i0 := y0) ) (cwS 2 C.2.2.2.2.1 gX6_clear_X6_at rfl rfl rfl (by decide +kernel) ⟨Nat.le_of_ble_eq_true rfl, Nat.le_of_ble_eq_true rfl⟩) [wMM g mm b1 b2 b3 b4 b5 b6 b7 b8 b9 b10 b11 b12 b13 b14 b15 b16 b17 kinds ni cm first second An An Tm Tm bc hds tgs qc qi qo qs cn vals Nw Nw Kw Kw 0] [] [0] [] (fun _ => [wMM g mm b1 b2 b3 b4 b5 b6 b7 b8 b9 b10 b11 b12 b13 b14 b15 b16 b17 kinds ni cm first second An An Tm Tm bc hds tgs qc qi qo qs cn vals Nw Nw Kw Kw 0]) (fun _ => wMM g mm b1 b2 b3 b4 b5 b6 b7 b8 b9 b10 b11 b12 b13 b14 b15 b16 b17 kinds ni cm first second An An Tm Tm bc hds tgs qc qi qo qs cn vals Nw Nw Kw Kw 0 ++ ([])) rfl rfl rfl (fun _ => rfl) (fun _ => rfl) (fun _ => rfl) (fun _ => rfl) rfl rfl (Nat.le_of_ble_eq_true rfl) dX6_clear_18 ⟨by decide, by decide⟩ (fun r_4 _ h_3 => ?_)
  subst h_3
  refine v_istore_n C [(3, .int (iI ((12 * (hds (x0)) + y0 : Nat) : Int))), (0, .ref (mm)), (1, .int (iI ((x0 : Nat) : Int))), (2, .int (iI ((y0 : Nat) : Int)))] dX6_clear_21 rfl (by decide) rfl ?_
  refine v_aload_n C dX6_clear_22 rfl 1 rfl ?_
  refine v_aload_n C dX6_clear_23 rfl 1 rfl ?_
  refine v_get C 0 (kf := 7) rfl rfl (by decide) inX6_clear_6 lkX6_clear_31 rfl rfl dX6_clear_24 ?_
  refine v_iload_n C dX6_clear_27 rfl 0 rfl ?_
  refine v_lald C 6 (12 * (hds (x0)) + y0) rfl rfl (by omega) (by decide) dX6_clear_28 ?_
  refine v_lconst C (v := lN 1) dX6_clear_29 rfl ?_
  refine v_lcmp C dX6_clear_30 ?_
  refine v_ifl_ne C 49 dX6_clear_31 (by decide) (fun c_5 => ?_) (fun c_5 => ?_)
  ·
    exact absurd (show loM (Tm (12 * hds (x0) + y0)) = lN 1 by rw [hq]; rfl) c_5
  ·
    refine v_aload_n C dX6_clear_34 rfl 1 rfl ?_
    refine v_get C 0 (kf := 8) rfl rfl (by decide) inX6_clear_6 lkX6_clear_34 rfl rfl dX6_clear_35 ?_
    refine v_iload_n C dX6_clear_38 rfl 0 rfl ?_
    refine v_lald C 7 (12 * (hds (x0)) + y0) rfl rfl (by omega) (by decide) dX6_clear_39 ?_
    refine v_lconst C (v := lN 0) dX6_clear_40 rfl ?_
    refine v_lcmp C dX6_clear_41 ?_
    refine v_ifl_ne C 49 dX6_clear_42 (by decide) (fun c_6 => ?_) (fun c_6 => ?_)
    ·
      exact absurd (show hiM (Tm (12 * hds (x0) + y0)) = lN 0 by rw [hq]; rfl) c_6
    ·
      refine v_iconst C (z := 2) dX6_clear_45 ?_
      refine v_goto C 55 dX6_clear_46 (by decide) ?_
      refine v_invVI C (As := [.int (iI (2))]) (q0 := 0) (ci := 6) (kX6_fails_p l g (mm := mm) (b1 := b1) (b2 := b2) (b3 := b3) (b4 := b4) (b5 := b5) (b6 := b6) (b7 := b7) (b8 := b8) (b9 := b9) (b10 := b10) (b11 := b11) (b12 := b12) (b13 := b13) (b14 := b14) (b15 := b15) (b16 := b16) (b17 := b17) (kinds := kinds) (tgs := tgs) (first := first) (second := second) (vals := vals) (qs := qs) (hds := hds) (An := An) (qi := qi) (qo := qo) (Tm := Tm) (Nw := Nw) (Kw := Kw) (ni := ni) (bc := bc) (cm := cm) (cn := cn) (qc := qc) (cd := 0) (ris := ris) (q := 2) (by decide)) (cwV 1 C.2.2.2.2.1 gX6_clear_X6_fails rfl rfl rfl (by decide +kernel) ⟨Nat.le_of_ble_eq_true rfl, Nat.le_of_ble_eq_true rfl⟩) [wMM g mm b1 b2 b3 b4 b5 b6 b7 b8 b9 b10 b11 b12 b13 b14 b15 b16 b17 kinds ni cm first second An An Tm Tm bc hds tgs qc qi qo qs cn vals Nw Nw Kw Kw 0] [0] [] [] (fun _ => [wMM g mm b1 b2 b3 b4 b5 b6 b7 b8 b9 b10 b11 b12 b13 b14 b15 b16 b17 kinds ni cm first second An An Tm Tm bc hds tgs qc qi qo qs cn vals Nw Nw Kw Kw 2]) (fun _ => wMM g mm b1 b2 b3 b4 b5 b6 b7 b8 b9 b10 b11 b12 b13 b14 b15 b16 b17 kinds ni cm first second An An Tm Tm bc hds tgs qc qi qo qs cn vals Nw Nw Kw Kw 2 ++ ([])) rfl rfl rfl (fun _ => rfl) (fun _ => rfl) (fun _ => rfl) (fun _ => rfl) rfl rfl rfl rfl rfl (Nat.le_of_ble_eq_true rfl) dX6_clear_55 ⟨by decide, by decide⟩ (fun r_8 _ h_7 => ?_)
      subst h_7
      refine v_ifz_eq C 63 dX6_clear_58 (by decide) (fun h => nomatch h) (fun _ => ?_)
      refine v_iconst C (z := 0) dX6_clear_61 ?_
      exact (v_iret C hr hl () (by decide) (by decide) rfl trivial dX6_clear_62)
set_option maxHeartbeats 4000000 in
set_option maxRecDepth 100000 in
theorem kX6_clear_3 (l : Launch) (g : vG) {mm b1 b2 b3 b4 b5 b6 b7 b8 b9 b10 b11 b12 b13 b14 b15 b16 b17 : Nat} {kinds tgs first second vals qs : Nat → Int} {hds An qi qo Tm Nw Kw ris : Nat → Nat} {ni bc cm cn qc cd : Nat} {x0 : Nat} {y0 : Nat} (hI : MI vals ris cn kinds tgs first second qs hds An qi qo Tm ni bc cm qc) (hx0 : x0 < bc) (hy0 : y0 < ni) (hq : ¬ Tm (12 * hds (x0) + y0) = 1) (hcf : cm = 100) : mI l g yX6_clear wsX6_clear ({ frames := 3, cells := 0, slots := 0, locals := 65 }) [.ref (mm), .int (iI ((x0 : Nat) : Int)), .int (iI ((y0 : Nat) : Int))] (wMM g mm b1 b2 b3 b4 b5 b6 b7 b8 b9 b10 b11 b12 b13 b14 b15 b16 b17 kinds ni cm first second An An Tm Tm bc hds tgs qc qi qo qs cn vals Nw Nw Kw Kw cd ++ ([])) (fun _ : Unit => wMM g mm b1 b2 b3 b4 b5 b6 b7 b8 b9 b10 b11 b12 b13 b14 b15 b16 b17 kinds ni cm first second An An Tm Tm bc hds tgs qc qi qo qs cn vals Nw Nw Kw Kw 3 ++ ([])) (fun _ _ => True) 0 0 := by
  refine mI_of (cc := cX6_clear) (maxL := 4) (ret := (some .int)) (own := RX6) (by decide) rfl rfl (Nat.le_of_ble_eq_true rfl) ?_
  intro p e s m args below meth c A C hr hl hin
  obtain ⟨hni, hbc1, hbc, hcm1, hcm, hcn1, hnm, hqc, hhd, htg, hf, hs, hfc, hsc, hAn, hTm, hao, hpal, hqb, hqi, htk, hkd⟩ := id hI
  refine v_aload_n C dX6_clear_0 rfl 0 rfl ?_
  refine v_iload_n C dX6_clear_1 rfl 1 rfl ?_
  refine v_iload_n C dX6_clear_2 rfl 2 rfl ?_
  refine v_invVI C (As := [.int (iI ((x0 : Nat) : Int)), .int (iI ((y0 : Nat) : Int))]) (q0 := 0) (ci := 6) (kX6_isNowhere_in l g (mm := mm) (b1 := b1) (b2 := b2) (b3 := b3) (b4 := b4) (b5 := b5) (b6 := b6) (b7 := b7) (b8 := b8) (b9 := b9) (b10 := b10) (b11 := b11) (b12 := b12) (b13 := b13) (b14 := b14) (b15 := b15) (b16 := b16) (b17 := b17) (kinds := kinds) (tgs := tgs) (first := first) (second := second) (vals := vals) (qs := qs) (hds := hds) (An := An) (qi := qi) (qo := qo) (Tm := Tm) (Nw := Nw) (Kw := Kw) (ni := ni) (bc := bc) (cm := cm) (cn := cn) (qc := qc) (cd := cd) (ris := ris) (i0 := x0) (j0 := y0) (by omega) (by omega) (by omega) (by omega)) (cwV 2 C.2.2.2.2.1 gX6_clear_X6_isNowhere rfl rfl rfl (by decide +kernel) ⟨Nat.le_of_ble_eq_true rfl, Nat.le_of_ble_eq_true rfl⟩) [wMM g mm b1 b2 b3 b4 b5 b6 b7 b8 b9 b10 b11 b12 b13 b14 b15 b16 b17 kinds ni cm first second An An Tm Tm bc hds tgs qc qi qo qs cn vals Nw Nw Kw Kw cd] [0] [] [] (fun _ => [wMM g mm b1 b2 b3 b4 b5 b6 b7 b8 b9 b10 b11 b12 b13 b14 b15 b16 b17 kinds ni cm first second An An Tm Tm bc hds tgs qc qi qo qs cn vals Nw Nw Kw Kw 0]) (fun _ => wMM g mm b1 b2 b3 b4 b5 b6 b7 b8 b9 b10 b11 b12 b13 b14 b15 b16 b17 kinds ni cm first second An An Tm Tm bc hds tgs qc qi qo qs cn vals Nw Nw Kw Kw 0 ++ ([])) rfl rfl rfl (fun _ => rfl) (fun _ => rfl) (fun _ => rfl) (fun _ => rfl) rfl rfl rfl rfl rfl (Nat.le_of_ble_eq_true rfl) dX6_clear_3 ⟨by decide, by decide⟩ (fun r_2 _ h_1 => ?_)
  subst h_1
  refine v_ifz_eq C 11 dX6_clear_6 (by decide) (fun _ => ?_) (fun h => nomatch h) 
  refine v_aload_n C dX6_clear_11 rfl 0 rfl ?_
  refine v_get C 0 (kf := 10) rfl rfl (by decide) inX6_clear_6 lkX6_clear_40 rfl rfl dX6_clear_12 ?_
  have hhx := hhd x0
  refine v_iload_n C dX6_clear_15 rfl 1 rfl ?_
  refine v_ialdn C 8 (x0) rfl rfl (by omega) (by decide) dX6_clear_16 ?_
  refine v_iload_n C dX6_clear_17 rfl 2 rfl ?_
  refine v_invSI C (As := [.int (iI ((hds (x0) : Nat) : Int)), .int (iI ((y0 : Nat) : Int))]) (kX6_at l g  (r0 := hds (x0)) (i0 := y0) ) (cwS 2 C.2.2.2.2.1 gX6_clear_X6_at rfl rfl rfl (by decide +kernel) ⟨Nat.le_of_ble_eq_true rfl, Nat.le_of_ble_eq_true rfl⟩) [wMM g mm b1 b2 b3 b4 b5 b6 b7 b8 b9 b10 b11 b12 b13 b14 b15 b16 b17 kinds ni cm first second An An Tm Tm bc hds tgs qc qi qo qs cn vals Nw Nw Kw Kw 0] [] [0] [] (fun _ => [wMM g mm b1 b2 b3 b4 b5 b6 b7 b8 b9 b10 b11 b12 b13 b14 b15 b16 b17 kinds ni cm first second An An Tm Tm bc hds tgs qc qi qo qs cn vals Nw Nw Kw Kw 0]) (fun _ => wMM g mm b1 b2 b3 b4 b5 b6 b7 b8 b9 b10 b11 b12 b13 b14 b15 b16 b17 kinds ni cm first second An An Tm Tm bc hds tgs qc qi qo qs cn vals Nw Nw Kw Kw 0 ++ ([])) rfl rfl rfl (fun _ => rfl) (fun _ => rfl) (fun _ => rfl) (fun _ => rfl) rfl rfl (Nat.le_of_ble_eq_true rfl) dX6_clear_18 ⟨by decide, by decide⟩ (fun r_4 _ h_3 => ?_)
  subst h_3
  refine v_istore_n C [(3, .int (iI ((12 * (hds (x0)) + y0 : Nat) : Int))), (0, .ref (mm)), (1, .int (iI ((x0 : Nat) : Int))), (2, .int (iI ((y0 : Nat) : Int)))] dX6_clear_21 rfl (by decide) rfl ?_
  refine v_aload_n C dX6_clear_22 rfl 1 rfl ?_
  refine v_aload_n C dX6_clear_23 rfl 1 rfl ?_
  refine v_get C 0 (kf := 7) rfl rfl (by decide) inX6_clear_6 lkX6_clear_31 rfl rfl dX6_clear_24 ?_
  refine v_iload_n C dX6_clear_27 rfl 0 rfl ?_
  refine v_lald C 6 (12 * (hds (x0)) + y0) rfl rfl (by omega) (by decide) dX6_clear_28 ?_
  refine v_lconst C (v := lN 1) dX6_clear_29 rfl ?_
  refine v_lcmp C dX6_clear_30 ?_
  refine v_ifl_ne C 49 dX6_clear_31 (by decide) (fun c_5 => ?_) (fun c_5 => ?_)
  ·
    refine v_iconst C (z := 3) dX6_clear_49 ?_
    refine v_aload_n C dX6_clear_50 rfl 1 rfl ?_
    refine v_invVI C (As := []) (q0 := 0) (ci := 6) (kX6_full_y l g (mm := mm) (b1 := b1) (b2 := b2) (b3 := b3) (b4 := b4) (b5 := b5) (b6 := b6) (b7 := b7) (b8 := b8) (b9 := b9) (b10 := b10) (b11 := b11) (b12 := b12) (b13 := b13) (b14 := b14) (b15 := b15) (b16 := b16) (b17 := b17) (kinds := kinds) (tgs := tgs) (first := first) (second := second) (vals := vals) (qs := qs) (hds := hds) (An := An) (qi := qi) (qo := qo) (Tm := Tm) (Nw := Nw) (Kw := Kw) (ni := ni) (bc := bc) (cm := cm) (cn := cn) (qc := qc) (cd := 0) (ris := ris)  (by omega)) (cwV 0 C.2.2.2.2.1 gX6_clear_X6_full rfl rfl rfl (by decide +kernel) ⟨Nat.le_of_ble_eq_true rfl, Nat.le_of_ble_eq_true rfl⟩) [wMM g mm b1 b2 b3 b4 b5 b6 b7 b8 b9 b10 b11 b12 b13 b14 b15 b16 b17 kinds ni cm first second An An Tm Tm bc hds tgs qc qi qo qs cn vals Nw Nw Kw Kw 0] [0] [] [.int (iI (3)), .ref (mm)] (fun _ => [wMM g mm b1 b2 b3 b4 b5 b6 b7 b8 b9 b10 b11 b12 b13 b14 b15 b16 b17 kinds ni cm first second An An Tm Tm bc hds tgs qc qi qo qs cn vals Nw Nw Kw Kw 0]) (fun _ => wMM g mm b1 b2 b3 b4 b5 b6 b7 b8 b9 b10 b11 b12 b13 b14 b15 b16 b17 kinds ni cm first second An An Tm Tm bc hds tgs qc qi qo qs cn vals Nw Nw Kw Kw 0 ++ ([])) rfl rfl rfl (fun _ => rfl) (fun _ => rfl) (fun _ => rfl) (fun _ => rfl) rfl rfl rfl rfl rfl (Nat.le_of_ble_eq_true rfl) dX6_clear_51 ⟨by decide, by decide⟩ (fun r_7 _ h_6 => ?_)
    subst h_6
    refine v_imul C dX6_clear_54 ?_
    refine v_st (st' := [.int (iI (3)), .ref (mm)]) rfl ?_
    refine v_invVI C (As := [.int (iI (3))]) (q0 := 0) (ci := 6) (kX6_fails_p l g (mm := mm) (b1 := b1) (b2 := b2) (b3 := b3) (b4 := b4) (b5 := b5) (b6 := b6) (b7 := b7) (b8 := b8) (b9 := b9) (b10 := b10) (b11 := b11) (b12 := b12) (b13 := b13) (b14 := b14) (b15 := b15) (b16 := b16) (b17 := b17) (kinds := kinds) (tgs := tgs) (first := first) (second := second) (vals := vals) (qs := qs) (hds := hds) (An := An) (qi := qi) (qo := qo) (Tm := Tm) (Nw := Nw) (Kw := Kw) (ni := ni) (bc := bc) (cm := cm) (cn := cn) (qc := qc) (cd := 0) (ris := ris) (q := 3) (by decide)) (cwV 1 C.2.2.2.2.1 gX6_clear_X6_fails rfl rfl rfl (by decide +kernel) ⟨Nat.le_of_ble_eq_true rfl, Nat.le_of_ble_eq_true rfl⟩) [wMM g mm b1 b2 b3 b4 b5 b6 b7 b8 b9 b10 b11 b12 b13 b14 b15 b16 b17 kinds ni cm first second An An Tm Tm bc hds tgs qc qi qo qs cn vals Nw Nw Kw Kw 0] [0] [] [] (fun _ => [wMM g mm b1 b2 b3 b4 b5 b6 b7 b8 b9 b10 b11 b12 b13 b14 b15 b16 b17 kinds ni cm first second An An Tm Tm bc hds tgs qc qi qo qs cn vals Nw Nw Kw Kw 3]) (fun _ => wMM g mm b1 b2 b3 b4 b5 b6 b7 b8 b9 b10 b11 b12 b13 b14 b15 b16 b17 kinds ni cm first second An An Tm Tm bc hds tgs qc qi qo qs cn vals Nw Nw Kw Kw 3 ++ ([])) rfl rfl rfl (fun _ => rfl) (fun _ => rfl) (fun _ => rfl) (fun _ => rfl) rfl rfl rfl rfl rfl (Nat.le_of_ble_eq_true rfl) dX6_clear_55 ⟨by decide, by decide⟩ (fun r_9 _ h_8 => ?_)
    subst h_8
    refine v_ifz_eq C 63 dX6_clear_58 (by decide) (fun h => nomatch h) (fun _ => ?_)
    refine v_iconst C (z := 0) dX6_clear_61 ?_
    exact (v_iret C hr hl () (by decide) (by decide) rfl trivial dX6_clear_62)
  ·
    refine v_aload_n C dX6_clear_34 rfl 1 rfl ?_
    refine v_get C 0 (kf := 8) rfl rfl (by decide) inX6_clear_6 lkX6_clear_34 rfl rfl dX6_clear_35 ?_
    refine v_iload_n C dX6_clear_38 rfl 0 rfl ?_
    refine v_lald C 7 (12 * (hds (x0)) + y0) rfl rfl (by omega) (by decide) dX6_clear_39 ?_
    refine v_lconst C (v := lN 0) dX6_clear_40 rfl ?_
    refine v_lcmp C dX6_clear_41 ?_
    refine v_ifl_ne C 49 dX6_clear_42 (by decide) (fun c_10 => ?_) (fun c_10 => ?_)
    ·
      refine v_iconst C (z := 3) dX6_clear_49 ?_
      refine v_aload_n C dX6_clear_50 rfl 1 rfl ?_
      refine v_invVI C (As := []) (q0 := 0) (ci := 6) (kX6_full_y l g (mm := mm) (b1 := b1) (b2 := b2) (b3 := b3) (b4 := b4) (b5 := b5) (b6 := b6) (b7 := b7) (b8 := b8) (b9 := b9) (b10 := b10) (b11 := b11) (b12 := b12) (b13 := b13) (b14 := b14) (b15 := b15) (b16 := b16) (b17 := b17) (kinds := kinds) (tgs := tgs) (first := first) (second := second) (vals := vals) (qs := qs) (hds := hds) (An := An) (qi := qi) (qo := qo) (Tm := Tm) (Nw := Nw) (Kw := Kw) (ni := ni) (bc := bc) (cm := cm) (cn := cn) (qc := qc) (cd := 0) (ris := ris)  (by omega)) (cwV 0 C.2.2.2.2.1 gX6_clear_X6_full rfl rfl rfl (by decide +kernel) ⟨Nat.le_of_ble_eq_true rfl, Nat.le_of_ble_eq_true rfl⟩) [wMM g mm b1 b2 b3 b4 b5 b6 b7 b8 b9 b10 b11 b12 b13 b14 b15 b16 b17 kinds ni cm first second An An Tm Tm bc hds tgs qc qi qo qs cn vals Nw Nw Kw Kw 0] [0] [] [.int (iI (3)), .ref (mm)] (fun _ => [wMM g mm b1 b2 b3 b4 b5 b6 b7 b8 b9 b10 b11 b12 b13 b14 b15 b16 b17 kinds ni cm first second An An Tm Tm bc hds tgs qc qi qo qs cn vals Nw Nw Kw Kw 0]) (fun _ => wMM g mm b1 b2 b3 b4 b5 b6 b7 b8 b9 b10 b11 b12 b13 b14 b15 b16 b17 kinds ni cm first second An An Tm Tm bc hds tgs qc qi qo qs cn vals Nw Nw Kw Kw 0 ++ ([])) rfl rfl rfl (fun _ => rfl) (fun _ => rfl) (fun _ => rfl) (fun _ => rfl) rfl rfl rfl rfl rfl (Nat.le_of_ble_eq_true rfl) dX6_clear_51 ⟨by decide, by decide⟩ (fun r_12 _ h_11 => ?_)
      subst h_11
      refine v_imul C dX6_clear_54 ?_
      refine v_st (st' := [.int (iI (3)), .ref (mm)]) rfl ?_
      refine v_invVI C (As := [.int (iI (3))]) (q0 := 0) (ci := 6) (kX6_fails_p l g (mm := mm) (b1 := b1) (b2 := b2) (b3 := b3) (b4 := b4) (b5 := b5) (b6 := b6) (b7 := b7) (b8 := b8) (b9 := b9) (b10 := b10) (b11 := b11) (b12 := b12) (b13 := b13) (b14 := b14) (b15 := b15) (b16 := b16) (b17 := b17) (kinds := kinds) (tgs := tgs) (first := first) (second := second) (vals := vals) (qs := qs) (hds := hds) (An := An) (qi := qi) (qo := qo) (Tm := Tm) (Nw := Nw) (Kw := Kw) (ni := ni) (bc := bc) (cm := cm) (cn := cn) (qc := qc) (cd := 0) (ris := ris) (q := 3) (by decide)) (cwV 1 C.2.2.2.2.1 gX6_clear_X6_fails rfl rfl rfl (by decide +kernel) ⟨Nat.le_of_ble_eq_true rfl, Nat.le_of_ble_eq_true rfl⟩) [wMM g mm b1 b2 b3 b4 b5 b6 b7 b8 b9 b10 b11 b12 b13 b14 b15 b16 b17 kinds ni cm first second An An Tm Tm bc hds tgs qc qi qo qs cn vals Nw Nw Kw Kw 0] [0] [] [] (fun _ => [wMM g mm b1 b2 b3 b4 b5 b6 b7 b8 b9 b10 b11 b12 b13 b14 b15 b16 b17 kinds ni cm first second An An Tm Tm bc hds tgs qc qi qo qs cn vals Nw Nw Kw Kw 3]) (fun _ => wMM g mm b1 b2 b3 b4 b5 b6 b7 b8 b9 b10 b11 b12 b13 b14 b15 b16 b17 kinds ni cm first second An An Tm Tm bc hds tgs qc qi qo qs cn vals Nw Nw Kw Kw 3 ++ ([])) rfl rfl rfl (fun _ => rfl) (fun _ => rfl) (fun _ => rfl) (fun _ => rfl) rfl rfl rfl rfl rfl (Nat.le_of_ble_eq_true rfl) dX6_clear_55 ⟨by decide, by decide⟩ (fun r_14 _ h_13 => ?_)
      subst h_13
      refine v_ifz_eq C 63 dX6_clear_58 (by decide) (fun h => nomatch h) (fun _ => ?_)
      refine v_iconst C (z := 0) dX6_clear_61 ?_
      exact (v_iret C hr hl () (by decide) (by decide) rfl trivial dX6_clear_62)
    ·
      exact absurd (m_eq (hTm _) (by decide) c_5 c_10) hq
theorem inX6_settle_6 : ∀ w ∈ u_ws RX6 TX6 23, w ∈ wsX6_settle := by decide +kernel
theorem lkX6_settle_40 : Cond.fieldLink RX6 40 "MergeAtelierModel" "heads" "[I" ∈ wsX6_settle := by decide +kernel
theorem lkX6_settle_31 : Cond.fieldLink RX6 31 "MergeAtelierModel" "low" "[J" ∈ wsX6_settle := by decide +kernel
theorem lkX6_settle_34 : Cond.fieldLink RX6 34 "MergeAtelierModel" "high" "[J" ∈ wsX6_settle := by decide +kernel
set_option maxHeartbeats 4000000 in
set_option maxRecDepth 100000 in
theorem kX6_settle_ok (l : Launch) (g : vG) {mm b1 b2 b3 b4 b5 b6 b7 b8 b9 b10 b11 b12 b13 b14 b15 b16 b17 : Nat} {kinds tgs first second vals qs : Nat → Int} {hds An qi qo Tm Nw Kw ris : Nat → Nat} {ni bc cm cn qc cd : Nat} {x0 : Nat} {y0 : Nat} {z : Int} (hI : MI vals ris cn kinds tgs first second qs hds An qi qo Tm ni bc cm qc) (hx0 : x0 < bc) (hy0 : y0 < ni) (hz : b31 z) (hk : 1 < cnt (Tm (12 * hds (x0) + y0))) (hz3 : 0 ≤ z) (hz4 : z < ((cnt (Tm (12 * hds (x0) + y0)) : Nat) : Int)) (hcf : cm < 100) : mI l g yX6_settle wsX6_settle ({ frames := 3, cells := 0, slots := 0, locals := 72 }) [.ref (mm), .int (iI ((x0 : Nat) : Int)), .int (iI ((y0 : Nat) : Int)), .int (iI (z))] (wMM g mm b1 b2 b3 b4 b5 b6 b7 b8 b9 b10 b11 b12 b13 b14 b15 b16 b17 kinds ni cm first second An An Tm Tm bc hds tgs qc qi qo qs cn vals Nw Nw Kw Kw cd ++ ([])) (fun _ : Unit => wMM g mm b1 b2 b3 b4 b5 b6 b7 b8 b9 b10 b11 b12 b13 b14 b15 b16 b17 kinds ni (cm + 1) (updZ first (cm) (((hds (x0) : Nat) : Int))) (updZ second (cm) (-1)) (updN An (cm) (An (hds (x0)) ||| 2 ^ cm)) (updN An (cm) (An (hds (x0)) ||| 2 ^ cm)) (updN (rowP Tm cm ni (fun i => Tm (12 * hds (x0) + i))) (12 * cm + y0) (2 ^ ((sIx (fun j => (Tm (12 * hds (x0) + y0)).testBit (ris j)) ris z cn).toNat))) (updN (rowP Tm cm ni (fun i => Tm (12 * hds (x0) + i))) (12 * cm + y0) (2 ^ ((sIx (fun j => (Tm (12 * hds (x0) + y0)).testBit (ris j)) ris z cn).toNat))) bc (updN hds (x0) (cm)) tgs qc qi qo qs cn vals Nw Nw Kw Kw 0 ++ ([])) (fun v _ => v = iI ((cm : Nat) : Int)) 0 0 := by
  refine mI_of (cc := cX6_settle) (maxL := 6) (ret := (some .int)) (own := RX6) (by decide) rfl rfl (Nat.le_of_ble_eq_true rfl) ?_
  intro p e s m args below meth c A C hr hl hin
  obtain ⟨hni, hbc1, hbc, hcm1, hcm, hcn1, hnm, hqc, hhd, htg, hf, hs, hfc, hsc, hAn, hTm, hao, hpal, hqb, hqi, htk, hkd⟩ := id hI
  have hz1 := hz.1
  have hz2 := hz.2
  refine v_aload_n C dX6_settle_0 rfl 0 rfl ?_
  refine v_iload_n C dX6_settle_1 rfl 1 rfl ?_
  refine v_iload_n C dX6_settle_2 rfl 2 rfl ?_
  refine v_invVI C (As := [.int (iI ((x0 : Nat) : Int)), .int (iI ((y0 : Nat) : Int))]) (q0 := 0) (ci := 6) (kX6_isNowhere_in l g (mm := mm) (b1 := b1) (b2 := b2) (b3 := b3) (b4 := b4) (b5 := b5) (b6 := b6) (b7 := b7) (b8 := b8) (b9 := b9) (b10 := b10) (b11 := b11) (b12 := b12) (b13 := b13) (b14 := b14) (b15 := b15) (b16 := b16) (b17 := b17) (kinds := kinds) (tgs := tgs) (first := first) (second := second) (vals := vals) (qs := qs) (hds := hds) (An := An) (qi := qi) (qo := qo) (Tm := Tm) (Nw := Nw) (Kw := Kw) (ni := ni) (bc := bc) (cm := cm) (cn := cn) (qc := qc) (cd := cd) (ris := ris) (i0 := x0) (j0 := y0) (by omega) (by omega) (by omega) (by omega)) (cwV 2 C.2.2.2.2.1 gX6_settle_X6_isNowhere rfl rfl rfl (by decide +kernel) ⟨Nat.le_of_ble_eq_true rfl, Nat.le_of_ble_eq_true rfl⟩) [wMM g mm b1 b2 b3 b4 b5 b6 b7 b8 b9 b10 b11 b12 b13 b14 b15 b16 b17 kinds ni cm first second An An Tm Tm bc hds tgs qc qi qo qs cn vals Nw Nw Kw Kw cd] [0] [] [] (fun _ => [wMM g mm b1 b2 b3 b4 b5 b6 b7 b8 b9 b10 b11 b12 b13 b14 b15 b16 b17 kinds ni cm first second An An Tm Tm bc hds tgs qc qi qo qs cn vals Nw Nw Kw Kw 0]) (fun _ => wMM g mm b1 b2 b3 b4 b5 b6 b7 b8 b9 b10 b11 b12 b13 b14 b15 b16 b17 kinds ni cm first second An An Tm Tm bc hds tgs qc qi qo qs cn vals Nw Nw Kw Kw 0 ++ ([])) rfl rfl rfl (fun _ => rfl) (fun _ => rfl) (fun _ => rfl) (fun _ => rfl) rfl rfl rfl rfl rfl (Nat.le_of_ble_eq_true rfl) dX6_settle_3 ⟨by decide, by decide⟩ (fun r_2 _ h_1 => ?_)
  subst h_1
  refine v_ifz_eq C 11 dX6_settle_6 (by decide) (fun _ => ?_) (fun h => nomatch h) 
  refine v_aload_n C dX6_settle_11 rfl 0 rfl ?_
  refine v_aload_n C dX6_settle_12 rfl 0 rfl ?_
  refine v_get C 0 (kf := 10) rfl rfl (by decide) inX6_settle_6 lkX6_settle_40 rfl rfl dX6_settle_13 ?_
  have hhx := hhd x0
  have hS9 := htk _ hhx y0 hy0
  have hc0 := cnt_pos hS9.1 (Nat.lt_of_lt_of_le hS9.2 (Nat.pow_le_pow_right (by decide) (by omega)))
  have hcb := cnt_le (Tm (12 * hds (x0) + y0))
  refine v_iload_n C dX6_settle_16 rfl 1 rfl ?_
  refine v_ialdn C 8 (x0) rfl rfl (by omega) (by decide) dX6_settle_17 ?_
  refine v_iload_n C dX6_settle_18 rfl 2 rfl ?_
  refine v_invVI C (As := [.int (iI ((hds (x0) : Nat) : Int)), .int (iI ((y0 : Nat) : Int))]) (q0 := 0) (ci := 6) (kX6_sidesIn l g (mm := mm) (b1 := b1) (b2 := b2) (b3 := b3) (b4 := b4) (b5 := b5) (b6 := b6) (b7 := b7) (b8 := b8) (b9 := b9) (b10 := b10) (b11 := b11) (b12 := b12) (b13 := b13) (b14 := b14) (b15 := b15) (b16 := b16) (b17 := b17) (kinds := kinds) (tgs := tgs) (first := first) (second := second) (vals := vals) (qs := qs) (hds := hds) (An := An) (qi := qi) (qo := qo) (Tm := Tm) (Nw := Nw) (Kw := Kw) (ni := ni) (bc := bc) (cm := cm) (cn := cn) (qc := qc) (cd := 0) (ris := ris) (c0 := hds (x0)) (i0 := y0) (by omega) (by omega) (by omega) hS9.2) (cwV 2 C.2.2.2.2.1 gX6_settle_X6_sidesIn rfl rfl rfl (by decide +kernel) ⟨Nat.le_of_ble_eq_true rfl, Nat.le_of_ble_eq_true rfl⟩) [wMM g mm b1 b2 b3 b4 b5 b6 b7 b8 b9 b10 b11 b12 b13 b14 b15 b16 b17 kinds ni cm first second An An Tm Tm bc hds tgs qc qi qo qs cn vals Nw Nw Kw Kw 0] [0] [] [] (fun _ => [wMM g mm b1 b2 b3 b4 b5 b6 b7 b8 b9 b10 b11 b12 b13 b14 b15 b16 b17 kinds ni cm first second An An Tm Tm bc hds tgs qc qi qo qs cn vals Nw Nw Kw Kw 0]) (fun _ => wMM g mm b1 b2 b3 b4 b5 b6 b7 b8 b9 b10 b11 b12 b13 b14 b15 b16 b17 kinds ni cm first second An An Tm Tm bc hds tgs qc qi qo qs cn vals Nw Nw Kw Kw 0 ++ ([])) rfl rfl rfl (fun _ => rfl) (fun _ => rfl) (fun _ => rfl) (fun _ => rfl) rfl rfl rfl rfl rfl (Nat.le_of_ble_eq_true rfl) dX6_settle_19 ⟨by decide, by decide⟩ (fun r_4 _ h_3 => ?_)
  subst h_3
  refine v_istore C [(4, .int (iI ((cnt (Tm (12 * (hds (x0)) + y0)) : Nat) : Int))), (0, .ref (mm)), (1, .int (iI ((x0 : Nat) : Int))), (2, .int (iI ((y0 : Nat) : Int))), (3, .int (iI (z)))] dX6_settle_22 (by decide) rfl ?_
  refine v_aload_n C dX6_settle_24 rfl 1 rfl ?_
  refine v_iload C dX6_settle_25 0 rfl ?_
  refine v_iconst C (z := 1) dX6_settle_27 ?_
  refine v_icmp_ne C 35 dX6_settle_28 (by decide) (cnt31 _) (b31_lit _ rfl) (fun c_5 => ?_) (fun c_5 => ?_)
  ·
    refine v_iload_n C dX6_settle_35 rfl 4 rfl ?_
    refine v_iconst C (z := 0) dX6_settle_36 ?_
    refine v_iload C dX6_settle_37 0 rfl ?_
    refine v_iconst C (z := 1) dX6_settle_39 ?_
    refine v_isub C dX6_settle_40 ?_
    refine v_invSI C (As := [.int (iI (z)), .int (iI (0)), .int (iI ((((cnt (Tm (12 * (hds (x0)) + y0)) : Nat) : Int)) - 1))]) (kX6_in_t l g  (x := z) (y := 0) (z := (((cnt (Tm (12 * (hds (x0)) + y0)) : Nat) : Int)) - 1) ⟨by omega, by omega⟩ (b31_lit _ rfl) ⟨by omega, by omega⟩ (by omega) (by omega)) (cwS 3 C.2.2.2.2.1 gX6_settle_X6_in rfl rfl rfl (by decide +kernel) ⟨Nat.le_of_ble_eq_true rfl, Nat.le_of_ble_eq_true rfl⟩) [wMM g mm b1 b2 b3 b4 b5 b6 b7 b8 b9 b10 b11 b12 b13 b14 b15 b16 b17 kinds ni cm first second An An Tm Tm bc hds tgs qc qi qo qs cn vals Nw Nw Kw Kw 0] [] [0] [.ref (mm)] (fun _ => [wMM g mm b1 b2 b3 b4 b5 b6 b7 b8 b9 b10 b11 b12 b13 b14 b15 b16 b17 kinds ni cm first second An An Tm Tm bc hds tgs qc qi qo qs cn vals Nw Nw Kw Kw 0]) (fun _ => wMM g mm b1 b2 b3 b4 b5 b6 b7 b8 b9 b10 b11 b12 b13 b14 b15 b16 b17 kinds ni cm first second An An Tm Tm bc hds tgs qc qi qo qs cn vals Nw Nw Kw Kw 0 ++ ([])) rfl rfl rfl (fun _ => rfl) (fun _ => rfl) (fun _ => rfl) (fun _ => rfl) rfl rfl (Nat.le_of_ble_eq_true rfl) dX6_settle_41 ⟨by decide, by decide⟩ (fun r_7 _ h_6 => ?_)
    subst h_6
    refine v_ifz_ne C 51 dX6_settle_44 (by decide) (fun _ => ?_) (fun h => nomatch h) 
    refine v_iconst C (z := 4) dX6_settle_51 ?_
    refine v_aload_n C dX6_settle_52 rfl 1 rfl ?_
    refine v_invVI C (As := []) (q0 := 0) (ci := 6) (kX6_full_n l g (mm := mm) (b1 := b1) (b2 := b2) (b3 := b3) (b4 := b4) (b5 := b5) (b6 := b6) (b7 := b7) (b8 := b8) (b9 := b9) (b10 := b10) (b11 := b11) (b12 := b12) (b13 := b13) (b14 := b14) (b15 := b15) (b16 := b16) (b17 := b17) (kinds := kinds) (tgs := tgs) (first := first) (second := second) (vals := vals) (qs := qs) (hds := hds) (An := An) (qi := qi) (qo := qo) (Tm := Tm) (Nw := Nw) (Kw := Kw) (ni := ni) (bc := bc) (cm := cm) (cn := cn) (qc := qc) (cd := 0) (ris := ris)  (by omega)) (cwV 0 C.2.2.2.2.1 gX6_settle_X6_full rfl rfl rfl (by decide +kernel) ⟨Nat.le_of_ble_eq_true rfl, Nat.le_of_ble_eq_true rfl⟩) [wMM g mm b1 b2 b3 b4 b5 b6 b7 b8 b9 b10 b11 b12 b13 b14 b15 b16 b17 kinds ni cm first second An An Tm Tm bc hds tgs qc qi qo qs cn vals Nw Nw Kw Kw 0] [0] [] [.int (iI (4)), .ref (mm)] (fun _ => [wMM g mm b1 b2 b3 b4 b5 b6 b7 b8 b9 b10 b11 b12 b13 b14 b15 b16 b17 kinds ni cm first second An An Tm Tm bc hds tgs qc qi qo qs cn vals Nw Nw Kw Kw 0]) (fun _ => wMM g mm b1 b2 b3 b4 b5 b6 b7 b8 b9 b10 b11 b12 b13 b14 b15 b16 b17 kinds ni cm first second An An Tm Tm bc hds tgs qc qi qo qs cn vals Nw Nw Kw Kw 0 ++ ([])) rfl rfl rfl (fun _ => rfl) (fun _ => rfl) (fun _ => rfl) (fun _ => rfl) rfl rfl rfl rfl rfl (Nat.le_of_ble_eq_true rfl) dX6_settle_53 ⟨by decide, by decide⟩ (fun r_9 _ h_8 => ?_)
    subst h_8
    refine v_imul C dX6_settle_56 ?_
    refine v_st (st' := [.int (iI (0)), .ref (mm)]) rfl ?_
    refine v_invVI C (As := [.int (iI (0))]) (q0 := 0) (ci := 6) (kX6_fails_z l g (mm := mm) (b1 := b1) (b2 := b2) (b3 := b3) (b4 := b4) (b5 := b5) (b6 := b6) (b7 := b7) (b8 := b8) (b9 := b9) (b10 := b10) (b11 := b11) (b12 := b12) (b13 := b13) (b14 := b14) (b15 := b15) (b16 := b16) (b17 := b17) (kinds := kinds) (tgs := tgs) (first := first) (second := second) (vals := vals) (qs := qs) (hds := hds) (An := An) (qi := qi) (qo := qo) (Tm := Tm) (Nw := Nw) (Kw := Kw) (ni := ni) (bc := bc) (cm := cm) (cn := cn) (qc := qc) (cd := 0) (ris := ris)  ) (cwV 1 C.2.2.2.2.1 gX6_settle_X6_fails rfl rfl rfl (by decide +kernel) ⟨Nat.le_of_ble_eq_true rfl, Nat.le_of_ble_eq_true rfl⟩) [wMM g mm b1 b2 b3 b4 b5 b6 b7 b8 b9 b10 b11 b12 b13 b14 b15 b16 b17 kinds ni cm first second An An Tm Tm bc hds tgs qc qi qo qs cn vals Nw Nw Kw Kw 0] [0] [] [] (fun _ => [wMM g mm b1 b2 b3 b4 b5 b6 b7 b8 b9 b10 b11 b12 b13 b14 b15 b16 b17 kinds ni cm first second An An Tm Tm bc hds tgs qc qi qo qs cn vals Nw Nw Kw Kw 0]) (fun _ => wMM g mm b1 b2 b3 b4 b5 b6 b7 b8 b9 b10 b11 b12 b13 b14 b15 b16 b17 kinds ni cm first second An An Tm Tm bc hds tgs qc qi qo qs cn vals Nw Nw Kw Kw 0 ++ ([])) rfl rfl rfl (fun _ => rfl) (fun _ => rfl) (fun _ => rfl) (fun _ => rfl) rfl rfl rfl rfl rfl (Nat.le_of_ble_eq_true rfl) dX6_settle_57 ⟨by decide, by decide⟩ (fun r_11 _ h_10 => ?_)
    subst h_10
    refine v_ifz_eq C 65 dX6_settle_60 (by decide) (fun _ => ?_) (fun h => nomatch h) 
    refine v_aload_n C dX6_settle_65 rfl 1 rfl ?_
    refine v_get C 0 (kf := 10) rfl rfl (by decide) inX6_settle_6 lkX6_settle_40 rfl rfl dX6_settle_66 ?_
    refine v_iload_n C dX6_settle_69 rfl 2 rfl ?_
    refine v_ialdn C 8 (x0) rfl rfl (by omega) (by decide) dX6_settle_70 ?_
    refine v_iload_n C dX6_settle_71 rfl 3 rfl ?_
    refine v_invSI C (As := [.int (iI ((hds (x0) : Nat) : Int)), .int (iI ((y0 : Nat) : Int))]) (kX6_at l g  (r0 := hds (x0)) (i0 := y0) ) (cwS 2 C.2.2.2.2.1 gX6_settle_X6_at rfl rfl rfl (by decide +kernel) ⟨Nat.le_of_ble_eq_true rfl, Nat.le_of_ble_eq_true rfl⟩) [wMM g mm b1 b2 b3 b4 b5 b6 b7 b8 b9 b10 b11 b12 b13 b14 b15 b16 b17 kinds ni cm first second An An Tm Tm bc hds tgs qc qi qo qs cn vals Nw Nw Kw Kw 0] [] [0] [] (fun _ => [wMM g mm b1 b2 b3 b4 b5 b6 b7 b8 b9 b10 b11 b12 b13 b14 b15 b16 b17 kinds ni cm first second An An Tm Tm bc hds tgs qc qi qo qs cn vals Nw Nw Kw Kw 0]) (fun _ => wMM g mm b1 b2 b3 b4 b5 b6 b7 b8 b9 b10 b11 b12 b13 b14 b15 b16 b17 kinds ni cm first second An An Tm Tm bc hds tgs qc qi qo qs cn vals Nw Nw Kw Kw 0 ++ ([])) rfl rfl rfl (fun _ => rfl) (fun _ => rfl) (fun _ => rfl) (fun _ => rfl) rfl rfl (Nat.le_of_ble_eq_true rfl) dX6_settle_72 ⟨by decide, by decide⟩ (fun r_13 _ h_12 => ?_)
    subst h_12
    refine v_istore C [(5, .int (iI ((12 * (hds (x0)) + y0 : Nat) : Int))), (4, .int (iI ((cnt (Tm (12 * (hds (x0)) + y0)) : Nat) : Int))), (0, .ref (mm)), (1, .int (iI ((x0 : Nat) : Int))), (2, .int (iI ((y0 : Nat) : Int))), (3, .int (iI (z)))] dX6_settle_75 (by decide) rfl ?_
    refine v_aload_n C dX6_settle_77 rfl 2 rfl ?_
    refine v_iload_n C dX6_settle_78 rfl 3 rfl ?_
    refine v_iload_n C dX6_settle_79 rfl 4 rfl ?_
    refine v_aload_n C dX6_settle_80 rfl 2 rfl ?_
    refine v_aload_n C dX6_settle_81 rfl 2 rfl ?_
    refine v_get C 0 (kf := 7) rfl rfl (by decide) inX6_settle_6 lkX6_settle_31 rfl rfl dX6_settle_82 ?_
    refine v_iload C dX6_settle_85 0 rfl ?_
    refine v_lald C 6 (12 * (hds (x0)) + y0) rfl rfl (by omega) (by decide) dX6_settle_87 ?_
    refine v_aload_n C dX6_settle_88 rfl 2 rfl ?_
    refine v_get C 0 (kf := 8) rfl rfl (by decide) inX6_settle_6 lkX6_settle_34 rfl rfl dX6_settle_89 ?_
    refine v_iload C dX6_settle_92 0 rfl ?_
    refine v_lald C 7 (12 * (hds (x0)) + y0) rfl rfl (by omega) (by decide) dX6_settle_94 ?_
    refine v_iload_n C dX6_settle_95 rfl 5 rfl ?_
    refine v_invVI C (As := [.long (loM (Tm (12 * (hds (x0)) + y0))), .long (hiM (Tm (12 * (hds (x0)) + y0))), .int (iI (z))]) (q0 := 0) (ci := 6) (kX6_sideOf l g (mm := mm) (b1 := b1) (b2 := b2) (b3 := b3) (b4 := b4) (b5 := b5) (b6 := b6) (b7 := b7) (b8 := b8) (b9 := b9) (b10 := b10) (b11 := b11) (b12 := b12) (b13 := b13) (b14 := b14) (b15 := b15) (b16 := b16) (b17 := b17) (kinds := kinds) (tgs := tgs) (first := first) (second := second) (vals := vals) (qs := qs) (hds := hds) (An := An) (qi := qi) (qo := qo) (Tm := Tm) (Nw := Nw) (Kw := Kw) (ni := ni) (bc := bc) (cm := cm) (cn := cn) (qc := qc) (cd := 0) (ris := ris) (S := Tm (12 * (hds (x0)) + y0)) (ix := z) hpal hS9.2 ⟨by omega, by omega⟩) (cwV 3 C.2.2.2.2.1 gX6_settle_X6_sideOf rfl rfl rfl (by decide +kernel) ⟨Nat.le_of_ble_eq_true rfl, Nat.le_of_ble_eq_true rfl⟩) [wMM g mm b1 b2 b3 b4 b5 b6 b7 b8 b9 b10 b11 b12 b13 b14 b15 b16 b17 kinds ni cm first second An An Tm Tm bc hds tgs qc qi qo qs cn vals Nw Nw Kw Kw 0] [0] [] [.int (iI ((y0 : Nat) : Int)), .int (iI ((x0 : Nat) : Int)), .ref (mm)] (fun _ => [wMM g mm b1 b2 b3 b4 b5 b6 b7 b8 b9 b10 b11 b12 b13 b14 b15 b16 b17 kinds ni cm first second An An Tm Tm bc hds tgs qc qi qo qs cn vals Nw Nw Kw Kw 0]) (fun _ => wMM g mm b1 b2 b3 b4 b5 b6 b7 b8 b9 b10 b11 b12 b13 b14 b15 b16 b17 kinds ni cm first second An An Tm Tm bc hds tgs qc qi qo qs cn vals Nw Nw Kw Kw 0 ++ ([])) rfl rfl rfl (fun _ => rfl) (fun _ => rfl) (fun _ => rfl) (fun _ => rfl) rfl rfl rfl rfl rfl (Nat.le_of_ble_eq_true rfl) dX6_settle_96 ⟨by decide, by decide⟩ (fun r_15 _ h_14 => ?_)
    subst h_14
    have hsn := sIx_nat (sIx_some hpal hS9.2 hz3 hz4) hpal.2.2.2.1
    refine v_st (st' := [.int (iI (((sIx (fun j => ((Tm (12 * (hds (x0)) + y0))).testBit (ris j)) ris z cn).toNat : Nat) : Int)), .int (iI ((y0 : Nat) : Int)), .int (iI ((x0 : Nat) : Int)), .ref (mm)]) (by rw [← hsn.1]) ?_
    refine v_invVI C (As := [.int (iI ((x0 : Nat) : Int)), .int (iI ((y0 : Nat) : Int)), .int (iI (((sIx (fun j => ((Tm (12 * (hds (x0)) + y0))).testBit (ris j)) ris z cn).toNat : Nat) : Int))]) (q0 := 0) (ci := 6) (kX6_changes l g (mm := mm) (b1 := b1) (b2 := b2) (b3 := b3) (b4 := b4) (b5 := b5) (b6 := b6) (b7 := b7) (b8 := b8) (b9 := b9) (b10 := b10) (b11 := b11) (b12 := b12) (b13 := b13) (b14 := b14) (b15 := b15) (b16 := b16) (b17 := b17) (kinds := kinds) (tgs := tgs) (first := first) (second := second) (vals := vals) (qs := qs) (hds := hds) (An := An) (qi := qi) (qo := qo) (Tm := Tm) (Nw := Nw) (Kw := Kw) (ni := ni) (bc := bc) (cm := cm) (cn := cn) (qc := qc) (cd := 0) (ris := ris) (b0 := x0) (i0 := y0) (sd := (sIx (fun j => ((Tm (12 * (hds (x0)) + y0))).testBit (ris j)) ris z cn).toNat) (by omega) (by omega) (by omega) (by omega) (by omega) (by omega)) (cwV 3 C.2.2.2.2.1 gX6_settle_X6_changes rfl rfl rfl (by decide +kernel) ⟨Nat.le_of_ble_eq_true rfl, Nat.le_of_ble_eq_true rfl⟩) [wMM g mm b1 b2 b3 b4 b5 b6 b7 b8 b9 b10 b11 b12 b13 b14 b15 b16 b17 kinds ni cm first second An An Tm Tm bc hds tgs qc qi qo qs cn vals Nw Nw Kw Kw 0] [0] [] [] (fun _ => [wMM g mm b1 b2 b3 b4 b5 b6 b7 b8 b9 b10 b11 b12 b13 b14 b15 b16 b17 kinds ni (cm + 1) (updZ first (cm) (((hds (x0) : Nat) : Int))) (updZ second (cm) (-1)) (updN An (cm) (An (hds (x0)) ||| 2 ^ cm)) (updN An (cm) (An (hds (x0)) ||| 2 ^ cm)) (updN (rowP Tm cm ni (fun i => Tm (12 * hds (x0) + i))) (12 * cm + y0) (2 ^ ((sIx (fun j => ((Tm (12 * (hds (x0)) + y0))).testBit (ris j)) ris z cn).toNat))) (updN (rowP Tm cm ni (fun i => Tm (12 * hds (x0) + i))) (12 * cm + y0) (2 ^ ((sIx (fun j => ((Tm (12 * (hds (x0)) + y0))).testBit (ris j)) ris z cn).toNat))) bc (updN hds (x0) (cm)) tgs qc qi qo qs cn vals Nw Nw Kw Kw 0]) (fun _ => wMM g mm b1 b2 b3 b4 b5 b6 b7 b8 b9 b10 b11 b12 b13 b14 b15 b16 b17 kinds ni (cm + 1) (updZ first (cm) (((hds (x0) : Nat) : Int))) (updZ second (cm) (-1)) (updN An (cm) (An (hds (x0)) ||| 2 ^ cm)) (updN An (cm) (An (hds (x0)) ||| 2 ^ cm)) (updN (rowP Tm cm ni (fun i => Tm (12 * hds (x0) + i))) (12 * cm + y0) (2 ^ ((sIx (fun j => ((Tm (12 * (hds (x0)) + y0))).testBit (ris j)) ris z cn).toNat))) (updN (rowP Tm cm ni (fun i => Tm (12 * hds (x0) + i))) (12 * cm + y0) (2 ^ ((sIx (fun j => ((Tm (12 * (hds (x0)) + y0))).testBit (ris j)) ris z cn).toNat))) bc (updN hds (x0) (cm)) tgs qc qi qo qs cn vals Nw Nw Kw Kw 0 ++ ([])) rfl rfl rfl (fun _ => rfl) (fun _ => rfl) (fun _ => rfl) (fun _ => rfl) rfl rfl rfl rfl rfl (Nat.le_of_ble_eq_true rfl) dX6_settle_99 ⟨by decide, by decide⟩ (fun r_17 _ h_16 => ?_)
    subst h_16
    exact (v_iret C hr hl () (by decide) (by decide) rfl rfl dX6_settle_102)
  ·
    exfalso; omega
set_option maxHeartbeats 4000000 in
set_option maxRecDepth 100000 in
theorem kX6_settle_a (l : Launch) (g : vG) {mm b1 b2 b3 b4 b5 b6 b7 b8 b9 b10 b11 b12 b13 b14 b15 b16 b17 : Nat} {kinds tgs first second vals qs : Nat → Int} {hds An qi qo Tm Nw Kw ris : Nat → Nat} {ni bc cm cn qc cd : Nat} {x : Int} {y : Int} {z : Int} (hI : MI vals ris cn kinds tgs first second qs hds An qi qo Tm ni bc cm qc) (hx : b31 x) (hqx : ¬ (0 ≤ x ∧ x < ((bc : Nat) : Int))) (hy : b31 y) (hz : b31 z)  : mI l g yX6_settle wsX6_settle ({ frames := 3, cells := 0, slots := 0, locals := 65 }) [.ref (mm), .int (iI (x)), .int (iI (y)), .int (iI (z))] (wMM g mm b1 b2 b3 b4 b5 b6 b7 b8 b9 b10 b11 b12 b13 b14 b15 b16 b17 kinds ni cm first second An An Tm Tm bc hds tgs qc qi qo qs cn vals Nw Nw Kw Kw cd ++ ([])) (fun _ : Unit => wMM g mm b1 b2 b3 b4 b5 b6 b7 b8 b9 b10 b11 b12 b13 b14 b15 b16 b17 kinds ni cm first second An An Tm Tm bc hds tgs qc qi qo qs cn vals Nw Nw Kw Kw 1 ++ ([])) (fun _ _ => True) 0 0 := by
  refine mI_of (cc := cX6_settle) (maxL := 6) (ret := (some .int)) (own := RX6) (by decide) rfl rfl (Nat.le_of_ble_eq_true rfl) ?_
  intro p e s m args below meth c A C hr hl hin
  obtain ⟨hni, hbc1, hbc, hcm1, hcm, hcn1, hnm, hqc, hhd, htg, hf, hs, hfc, hsc, hAn, hTm, hao, hpal, hqb, hqi, htk, hkd⟩ := id hI
  have hx1 := hx.1
  have hx2 := hx.2
  have hy1 := hy.1
  have hy2 := hy.2
  have hz1 := hz.1
  have hz2 := hz.2
  refine v_aload_n C dX6_settle_0 rfl 0 rfl ?_
  refine v_iload_n C dX6_settle_1 rfl 1 rfl ?_
  refine v_iload_n C dX6_settle_2 rfl 2 rfl ?_
  refine v_invVI C (As := [.int (iI (x)), .int (iI (y))]) (q0 := 0) (ci := 6) (kX6_isNowhere_a l g (mm := mm) (b1 := b1) (b2 := b2) (b3 := b3) (b4 := b4) (b5 := b5) (b6 := b6) (b7 := b7) (b8 := b8) (b9 := b9) (b10 := b10) (b11 := b11) (b12 := b12) (b13 := b13) (b14 := b14) (b15 := b15) (b16 := b16) (b17 := b17) (kinds := kinds) (tgs := tgs) (first := first) (second := second) (vals := vals) (qs := qs) (hds := hds) (An := An) (qi := qi) (qo := qo) (Tm := Tm) (Nw := Nw) (Kw := Kw) (ni := ni) (bc := bc) (cm := cm) (cn := cn) (qc := qc) (cd := cd) (ris := ris) (x := x) (y := y) ⟨by omega, by omega⟩ (by omega) (by omega) (by omega)) (cwV 2 C.2.2.2.2.1 gX6_settle_X6_isNowhere rfl rfl rfl (by decide +kernel) ⟨Nat.le_of_ble_eq_true rfl, Nat.le_of_ble_eq_true rfl⟩) [wMM g mm b1 b2 b3 b4 b5 b6 b7 b8 b9 b10 b11 b12 b13 b14 b15 b16 b17 kinds ni cm first second An An Tm Tm bc hds tgs qc qi qo qs cn vals Nw Nw Kw Kw cd] [0] [] [] (fun _ => [wMM g mm b1 b2 b3 b4 b5 b6 b7 b8 b9 b10 b11 b12 b13 b14 b15 b16 b17 kinds ni cm first second An An Tm Tm bc hds tgs qc qi qo qs cn vals Nw Nw Kw Kw 1]) (fun _ => wMM g mm b1 b2 b3 b4 b5 b6 b7 b8 b9 b10 b11 b12 b13 b14 b15 b16 b17 kinds ni cm first second An An Tm Tm bc hds tgs qc qi qo qs cn vals Nw Nw Kw Kw 1 ++ ([])) rfl rfl rfl (fun _ => rfl) (fun _ => rfl) (fun _ => rfl) (fun _ => rfl) rfl rfl rfl rfl rfl (Nat.le_of_ble_eq_true rfl) dX6_settle_3 ⟨by decide, by decide⟩ (fun r_2 _ h_1 => ?_)
  subst h_1
  refine v_ifz_eq C 11 dX6_settle_6 (by decide) (fun h => nomatch h) (fun _ => ?_)
  refine v_iconst C (z := 0) dX6_settle_9 ?_
  exact (v_iret C hr hl () (by decide) (by decide) rfl trivial dX6_settle_10)
set_option maxHeartbeats 4000000 in
set_option maxRecDepth 100000 in
theorem kX6_settle_b (l : Launch) (g : vG) {mm b1 b2 b3 b4 b5 b6 b7 b8 b9 b10 b11 b12 b13 b14 b15 b16 b17 : Nat} {kinds tgs first second vals qs : Nat → Int} {hds An qi qo Tm Nw Kw ris : Nat → Nat} {ni bc cm cn qc cd : Nat} {x0 : Nat} {y : Int} {z : Int} (hI : MI vals ris cn kinds tgs first second qs hds An qi qo Tm ni bc cm qc) (hx0 : x0 < bc) (hy : b31 y) (hqy : ¬ (0 ≤ y ∧ y < ((ni : Nat) : Int))) (hz : b31 z)  : mI l g yX6_settle wsX6_settle ({ frames := 3, cells := 0, slots := 0, locals := 65 }) [.ref (mm), .int (iI ((x0 : Nat) : Int)), .int (iI (y)), .int (iI (z))] (wMM g mm b1 b2 b3 b4 b5 b6 b7 b8 b9 b10 b11 b12 b13 b14 b15 b16 b17 kinds ni cm first second An An Tm Tm bc hds tgs qc qi qo qs cn vals Nw Nw Kw Kw cd ++ ([])) (fun _ : Unit => wMM g mm b1 b2 b3 b4 b5 b6 b7 b8 b9 b10 b11 b12 b13 b14 b15 b16 b17 kinds ni cm first second An An Tm Tm bc hds tgs qc qi qo qs cn vals Nw Nw Kw Kw 1 ++ ([])) (fun _ _ => True) 0 0 := by
  refine mI_of (cc := cX6_settle) (maxL := 6) (ret := (some .int)) (own := RX6) (by decide) rfl rfl (Nat.le_of_ble_eq_true rfl) ?_
  intro p e s m args below meth c A C hr hl hin
  obtain ⟨hni, hbc1, hbc, hcm1, hcm, hcn1, hnm, hqc, hhd, htg, hf, hs, hfc, hsc, hAn, hTm, hao, hpal, hqb, hqi, htk, hkd⟩ := id hI
  have hy1 := hy.1
  have hy2 := hy.2
  have hz1 := hz.1
  have hz2 := hz.2
  refine v_aload_n C dX6_settle_0 rfl 0 rfl ?_
  refine v_iload_n C dX6_settle_1 rfl 1 rfl ?_
  refine v_iload_n C dX6_settle_2 rfl 2 rfl ?_
  refine v_invVI C (As := [.int (iI ((x0 : Nat) : Int)), .int (iI (y))]) (q0 := 0) (ci := 6) (kX6_isNowhere_b l g (mm := mm) (b1 := b1) (b2 := b2) (b3 := b3) (b4 := b4) (b5 := b5) (b6 := b6) (b7 := b7) (b8 := b8) (b9 := b9) (b10 := b10) (b11 := b11) (b12 := b12) (b13 := b13) (b14 := b14) (b15 := b15) (b16 := b16) (b17 := b17) (kinds := kinds) (tgs := tgs) (first := first) (second := second) (vals := vals) (qs := qs) (hds := hds) (An := An) (qi := qi) (qo := qo) (Tm := Tm) (Nw := Nw) (Kw := Kw) (ni := ni) (bc := bc) (cm := cm) (cn := cn) (qc := qc) (cd := cd) (ris := ris) (i0 := x0) (y := y) (by omega) ⟨by omega, by omega⟩ (by omega) (by omega) (by omega)) (cwV 2 C.2.2.2.2.1 gX6_settle_X6_isNowhere rfl rfl rfl (by decide +kernel) ⟨Nat.le_of_ble_eq_true rfl, Nat.le_of_ble_eq_true rfl⟩) [wMM g mm b1 b2 b3 b4 b5 b6 b7 b8 b9 b10 b11 b12 b13 b14 b15 b16 b17 kinds ni cm first second An An Tm Tm bc hds tgs qc qi qo qs cn vals Nw Nw Kw Kw cd] [0] [] [] (fun _ => [wMM g mm b1 b2 b3 b4 b5 b6 b7 b8 b9 b10 b11 b12 b13 b14 b15 b16 b17 kinds ni cm first second An An Tm Tm bc hds tgs qc qi qo qs cn vals Nw Nw Kw Kw 1]) (fun _ => wMM g mm b1 b2 b3 b4 b5 b6 b7 b8 b9 b10 b11 b12 b13 b14 b15 b16 b17 kinds ni cm first second An An Tm Tm bc hds tgs qc qi qo qs cn vals Nw Nw Kw Kw 1 ++ ([])) rfl rfl rfl (fun _ => rfl) (fun _ => rfl) (fun _ => rfl) (fun _ => rfl) rfl rfl rfl rfl rfl (Nat.le_of_ble_eq_true rfl) dX6_settle_3 ⟨by decide, by decide⟩ (fun r_2 _ h_1 => ?_)
  subst h_1
  refine v_ifz_eq C 11 dX6_settle_6 (by decide) (fun h => nomatch h) (fun _ => ?_)
  refine v_iconst C (z := 0) dX6_settle_9 ?_
  exact (v_iret C hr hl () (by decide) (by decide) rfl trivial dX6_settle_10)
set_option maxHeartbeats 4000000 in
set_option maxRecDepth 100000 in
theorem kX6_settle_2 (l : Launch) (g : vG) {mm b1 b2 b3 b4 b5 b6 b7 b8 b9 b10 b11 b12 b13 b14 b15 b16 b17 : Nat} {kinds tgs first second vals qs : Nat → Int} {hds An qi qo Tm Nw Kw ris : Nat → Nat} {ni bc cm cn qc cd : Nat} {x0 : Nat} {y0 : Nat} {z : Int} (hI : MI vals ris cn kinds tgs first second qs hds An qi qo Tm ni bc cm qc) (hx0 : x0 < bc) (hy0 : y0 < ni) (hz : b31 z) (hk : ¬ 1 < cnt (Tm (12 * hds (x0) + y0))) : mI l g yX6_settle wsX6_settle ({ frames := 3, cells := 0, slots := 0, locals := 72 }) [.ref (mm), .int (iI ((x0 : Nat) : Int)), .int (iI ((y0 : Nat) : Int)), .int (iI (z))] (wMM g mm b1 b2 b3 b4 b5 b6 b7 b8 b9 b10 b11 b12 b13 b14 b15 b16 b17 kinds ni cm first second An An Tm Tm bc hds tgs qc qi qo qs cn vals Nw Nw Kw Kw cd ++ ([])) (fun _ : Unit => wMM g mm b1 b2 b3 b4 b5 b6 b7 b8 b9 b10 b11 b12 b13 b14 b15 b16 b17 kinds ni cm first second An An Tm Tm bc hds tgs qc qi qo qs cn vals Nw Nw Kw Kw 2 ++ ([])) (fun _ _ => True) 0 0 := by
  refine mI_of (cc := cX6_settle) (maxL := 6) (ret := (some .int)) (own := RX6) (by decide) rfl rfl (Nat.le_of_ble_eq_true rfl) ?_
  intro p e s m args below meth c A C hr hl hin
  obtain ⟨hni, hbc1, hbc, hcm1, hcm, hcn1, hnm, hqc, hhd, htg, hf, hs, hfc, hsc, hAn, hTm, hao, hpal, hqb, hqi, htk, hkd⟩ := id hI
  have hz1 := hz.1
  have hz2 := hz.2
  refine v_aload_n C dX6_settle_0 rfl 0 rfl ?_
  refine v_iload_n C dX6_settle_1 rfl 1 rfl ?_
  refine v_iload_n C dX6_settle_2 rfl 2 rfl ?_
  refine v_invVI C (As := [.int (iI ((x0 : Nat) : Int)), .int (iI ((y0 : Nat) : Int))]) (q0 := 0) (ci := 6) (kX6_isNowhere_in l g (mm := mm) (b1 := b1) (b2 := b2) (b3 := b3) (b4 := b4) (b5 := b5) (b6 := b6) (b7 := b7) (b8 := b8) (b9 := b9) (b10 := b10) (b11 := b11) (b12 := b12) (b13 := b13) (b14 := b14) (b15 := b15) (b16 := b16) (b17 := b17) (kinds := kinds) (tgs := tgs) (first := first) (second := second) (vals := vals) (qs := qs) (hds := hds) (An := An) (qi := qi) (qo := qo) (Tm := Tm) (Nw := Nw) (Kw := Kw) (ni := ni) (bc := bc) (cm := cm) (cn := cn) (qc := qc) (cd := cd) (ris := ris) (i0 := x0) (j0 := y0) (by omega) (by omega) (by omega) (by omega)) (cwV 2 C.2.2.2.2.1 gX6_settle_X6_isNowhere rfl rfl rfl (by decide +kernel) ⟨Nat.le_of_ble_eq_true rfl, Nat.le_of_ble_eq_true rfl⟩) [wMM g mm b1 b2 b3 b4 b5 b6 b7 b8 b9 b10 b11 b12 b13 b14 b15 b16 b17 kinds ni cm first second An An Tm Tm bc hds tgs qc qi qo qs cn vals Nw Nw Kw Kw cd] [0] [] [] (fun _ => [wMM g mm b1 b2 b3 b4 b5 b6 b7 b8 b9 b10 b11 b12 b13 b14 b15 b16 b17 kinds ni cm first second An An Tm Tm bc hds tgs qc qi qo qs cn vals Nw Nw Kw Kw 0]) (fun _ => wMM g mm b1 b2 b3 b4 b5 b6 b7 b8 b9 b10 b11 b12 b13 b14 b15 b16 b17 kinds ni cm first second An An Tm Tm bc hds tgs qc qi qo qs cn vals Nw Nw Kw Kw 0 ++ ([])) rfl rfl rfl (fun _ => rfl) (fun _ => rfl) (fun _ => rfl) (fun _ => rfl) rfl rfl rfl rfl rfl (Nat.le_of_ble_eq_true rfl) dX6_settle_3 ⟨by decide, by decide⟩ (fun r_2 _ h_1 => ?_)
  subst h_1
  refine v_ifz_eq C 11 dX6_settle_6 (by decide) (fun _ => ?_) (fun h => nomatch h) 
  refine v_aload_n C dX6_settle_11 rfl 0 rfl ?_
  refine v_aload_n C dX6_settle_12 rfl 0 rfl ?_
  refine v_get C 0 (kf := 10) rfl rfl (by decide) inX6_settle_6 lkX6_settle_40 rfl rfl dX6_settle_13 ?_
  have hhx := hhd x0
  have hS9 := htk _ hhx y0 hy0
  have hc0 := cnt_pos hS9.1 (Nat.lt_of_lt_of_le hS9.2 (Nat.pow_le_pow_right (by decide) (by omega)))
  have hcb := cnt_le (Tm (12 * hds (x0) + y0))
  refine v_iload_n C dX6_settle_16 rfl 1 rfl ?_
  refine v_ialdn C 8 (x0) rfl rfl (by omega) (by decide) dX6_settle_17 ?_
  refine v_iload_n C dX6_settle_18 rfl 2 rfl ?_
  refine v_invVI C (As := [.int (iI ((hds (x0) : Nat) : Int)), .int (iI ((y0 : Nat) : Int))]) (q0 := 0) (ci := 6) (kX6_sidesIn l g (mm := mm) (b1 := b1) (b2 := b2) (b3 := b3) (b4 := b4) (b5 := b5) (b6 := b6) (b7 := b7) (b8 := b8) (b9 := b9) (b10 := b10) (b11 := b11) (b12 := b12) (b13 := b13) (b14 := b14) (b15 := b15) (b16 := b16) (b17 := b17) (kinds := kinds) (tgs := tgs) (first := first) (second := second) (vals := vals) (qs := qs) (hds := hds) (An := An) (qi := qi) (qo := qo) (Tm := Tm) (Nw := Nw) (Kw := Kw) (ni := ni) (bc := bc) (cm := cm) (cn := cn) (qc := qc) (cd := 0) (ris := ris) (c0 := hds (x0)) (i0 := y0) (by omega) (by omega) (by omega) hS9.2) (cwV 2 C.2.2.2.2.1 gX6_settle_X6_sidesIn rfl rfl rfl (by decide +kernel) ⟨Nat.le_of_ble_eq_true rfl, Nat.le_of_ble_eq_true rfl⟩) [wMM g mm b1 b2 b3 b4 b5 b6 b7 b8 b9 b10 b11 b12 b13 b14 b15 b16 b17 kinds ni cm first second An An Tm Tm bc hds tgs qc qi qo qs cn vals Nw Nw Kw Kw 0] [0] [] [] (fun _ => [wMM g mm b1 b2 b3 b4 b5 b6 b7 b8 b9 b10 b11 b12 b13 b14 b15 b16 b17 kinds ni cm first second An An Tm Tm bc hds tgs qc qi qo qs cn vals Nw Nw Kw Kw 0]) (fun _ => wMM g mm b1 b2 b3 b4 b5 b6 b7 b8 b9 b10 b11 b12 b13 b14 b15 b16 b17 kinds ni cm first second An An Tm Tm bc hds tgs qc qi qo qs cn vals Nw Nw Kw Kw 0 ++ ([])) rfl rfl rfl (fun _ => rfl) (fun _ => rfl) (fun _ => rfl) (fun _ => rfl) rfl rfl rfl rfl rfl (Nat.le_of_ble_eq_true rfl) dX6_settle_19 ⟨by decide, by decide⟩ (fun r_4 _ h_3 => ?_)
  subst h_3
  refine v_istore C [(4, .int (iI ((cnt (Tm (12 * (hds (x0)) + y0)) : Nat) : Int))), (0, .ref (mm)), (1, .int (iI ((x0 : Nat) : Int))), (2, .int (iI ((y0 : Nat) : Int))), (3, .int (iI (z)))] dX6_settle_22 (by decide) rfl ?_
  refine v_aload_n C dX6_settle_24 rfl 1 rfl ?_
  refine v_iload C dX6_settle_25 0 rfl ?_
  refine v_iconst C (z := 1) dX6_settle_27 ?_
  refine v_icmp_ne C 35 dX6_settle_28 (by decide) (cnt31 _) (b31_lit _ rfl) (fun c_5 => ?_) (fun c_5 => ?_)
  ·
    exfalso; omega
  ·
    refine v_iconst C (z := 2) dX6_settle_31 ?_
    refine v_goto C 57 dX6_settle_32 (by decide) ?_
    refine v_invVI C (As := [.int (iI (2))]) (q0 := 0) (ci := 6) (kX6_fails_p l g (mm := mm) (b1 := b1) (b2 := b2) (b3 := b3) (b4 := b4) (b5 := b5) (b6 := b6) (b7 := b7) (b8 := b8) (b9 := b9) (b10 := b10) (b11 := b11) (b12 := b12) (b13 := b13) (b14 := b14) (b15 := b15) (b16 := b16) (b17 := b17) (kinds := kinds) (tgs := tgs) (first := first) (second := second) (vals := vals) (qs := qs) (hds := hds) (An := An) (qi := qi) (qo := qo) (Tm := Tm) (Nw := Nw) (Kw := Kw) (ni := ni) (bc := bc) (cm := cm) (cn := cn) (qc := qc) (cd := 0) (ris := ris) (q := 2) (by decide)) (cwV 1 C.2.2.2.2.1 gX6_settle_X6_fails rfl rfl rfl (by decide +kernel) ⟨Nat.le_of_ble_eq_true rfl, Nat.le_of_ble_eq_true rfl⟩) [wMM g mm b1 b2 b3 b4 b5 b6 b7 b8 b9 b10 b11 b12 b13 b14 b15 b16 b17 kinds ni cm first second An An Tm Tm bc hds tgs qc qi qo qs cn vals Nw Nw Kw Kw 0] [0] [] [] (fun _ => [wMM g mm b1 b2 b3 b4 b5 b6 b7 b8 b9 b10 b11 b12 b13 b14 b15 b16 b17 kinds ni cm first second An An Tm Tm bc hds tgs qc qi qo qs cn vals Nw Nw Kw Kw 2]) (fun _ => wMM g mm b1 b2 b3 b4 b5 b6 b7 b8 b9 b10 b11 b12 b13 b14 b15 b16 b17 kinds ni cm first second An An Tm Tm bc hds tgs qc qi qo qs cn vals Nw Nw Kw Kw 2 ++ ([])) rfl rfl rfl (fun _ => rfl) (fun _ => rfl) (fun _ => rfl) (fun _ => rfl) rfl rfl rfl rfl rfl (Nat.le_of_ble_eq_true rfl) dX6_settle_57 ⟨by decide, by decide⟩ (fun r_7 _ h_6 => ?_)
    subst h_6
    refine v_ifz_eq C 65 dX6_settle_60 (by decide) (fun h => nomatch h) (fun _ => ?_)
    refine v_iconst C (z := 0) dX6_settle_63 ?_
    exact (v_iret C hr hl () (by decide) (by decide) rfl trivial dX6_settle_64)
set_option maxHeartbeats 4000000 in
set_option maxRecDepth 100000 in
theorem kX6_settle_3 (l : Launch) (g : vG) {mm b1 b2 b3 b4 b5 b6 b7 b8 b9 b10 b11 b12 b13 b14 b15 b16 b17 : Nat} {kinds tgs first second vals qs : Nat → Int} {hds An qi qo Tm Nw Kw ris : Nat → Nat} {ni bc cm cn qc cd : Nat} {x0 : Nat} {y0 : Nat} {z : Int} (hI : MI vals ris cn kinds tgs first second qs hds An qi qo Tm ni bc cm qc) (hx0 : x0 < bc) (hy0 : y0 < ni) (hz : b31 z) (hk : 1 < cnt (Tm (12 * hds (x0) + y0))) (hq : ¬ (0 ≤ z ∧ z < ((cnt (Tm (12 * hds (x0) + y0)) : Nat) : Int))) : mI l g yX6_settle wsX6_settle ({ frames := 3, cells := 0, slots := 0, locals := 72 }) [.ref (mm), .int (iI ((x0 : Nat) : Int)), .int (iI ((y0 : Nat) : Int)), .int (iI (z))] (wMM g mm b1 b2 b3 b4 b5 b6 b7 b8 b9 b10 b11 b12 b13 b14 b15 b16 b17 kinds ni cm first second An An Tm Tm bc hds tgs qc qi qo qs cn vals Nw Nw Kw Kw cd ++ ([])) (fun _ : Unit => wMM g mm b1 b2 b3 b4 b5 b6 b7 b8 b9 b10 b11 b12 b13 b14 b15 b16 b17 kinds ni cm first second An An Tm Tm bc hds tgs qc qi qo qs cn vals Nw Nw Kw Kw 3 ++ ([])) (fun _ _ => True) 0 0 := by
  refine mI_of (cc := cX6_settle) (maxL := 6) (ret := (some .int)) (own := RX6) (by decide) rfl rfl (Nat.le_of_ble_eq_true rfl) ?_
  intro p e s m args below meth c A C hr hl hin
  obtain ⟨hni, hbc1, hbc, hcm1, hcm, hcn1, hnm, hqc, hhd, htg, hf, hs, hfc, hsc, hAn, hTm, hao, hpal, hqb, hqi, htk, hkd⟩ := id hI
  have hz1 := hz.1
  have hz2 := hz.2
  refine v_aload_n C dX6_settle_0 rfl 0 rfl ?_
  refine v_iload_n C dX6_settle_1 rfl 1 rfl ?_
  refine v_iload_n C dX6_settle_2 rfl 2 rfl ?_
  refine v_invVI C (As := [.int (iI ((x0 : Nat) : Int)), .int (iI ((y0 : Nat) : Int))]) (q0 := 0) (ci := 6) (kX6_isNowhere_in l g (mm := mm) (b1 := b1) (b2 := b2) (b3 := b3) (b4 := b4) (b5 := b5) (b6 := b6) (b7 := b7) (b8 := b8) (b9 := b9) (b10 := b10) (b11 := b11) (b12 := b12) (b13 := b13) (b14 := b14) (b15 := b15) (b16 := b16) (b17 := b17) (kinds := kinds) (tgs := tgs) (first := first) (second := second) (vals := vals) (qs := qs) (hds := hds) (An := An) (qi := qi) (qo := qo) (Tm := Tm) (Nw := Nw) (Kw := Kw) (ni := ni) (bc := bc) (cm := cm) (cn := cn) (qc := qc) (cd := cd) (ris := ris) (i0 := x0) (j0 := y0) (by omega) (by omega) (by omega) (by omega)) (cwV 2 C.2.2.2.2.1 gX6_settle_X6_isNowhere rfl rfl rfl (by decide +kernel) ⟨Nat.le_of_ble_eq_true rfl, Nat.le_of_ble_eq_true rfl⟩) [wMM g mm b1 b2 b3 b4 b5 b6 b7 b8 b9 b10 b11 b12 b13 b14 b15 b16 b17 kinds ni cm first second An An Tm Tm bc hds tgs qc qi qo qs cn vals Nw Nw Kw Kw cd] [0] [] [] (fun _ => [wMM g mm b1 b2 b3 b4 b5 b6 b7 b8 b9 b10 b11 b12 b13 b14 b15 b16 b17 kinds ni cm first second An An Tm Tm bc hds tgs qc qi qo qs cn vals Nw Nw Kw Kw 0]) (fun _ => wMM g mm b1 b2 b3 b4 b5 b6 b7 b8 b9 b10 b11 b12 b13 b14 b15 b16 b17 kinds ni cm first second An An Tm Tm bc hds tgs qc qi qo qs cn vals Nw Nw Kw Kw 0 ++ ([])) rfl rfl rfl (fun _ => rfl) (fun _ => rfl) (fun _ => rfl) (fun _ => rfl) rfl rfl rfl rfl rfl (Nat.le_of_ble_eq_true rfl) dX6_settle_3 ⟨by decide, by decide⟩ (fun r_2 _ h_1 => ?_)
  subst h_1
  refine v_ifz_eq C 11 dX6_settle_6 (by decide) (fun _ => ?_) (fun h => nomatch h) 
  refine v_aload_n C dX6_settle_11 rfl 0 rfl ?_
  refine v_aload_n C dX6_settle_12 rfl 0 rfl ?_
  refine v_get C 0 (kf := 10) rfl rfl (by decide) inX6_settle_6 lkX6_settle_40 rfl rfl dX6_settle_13 ?_
  have hhx := hhd x0
  have hS9 := htk _ hhx y0 hy0
  have hc0 := cnt_pos hS9.1 (Nat.lt_of_lt_of_le hS9.2 (Nat.pow_le_pow_right (by decide) (by omega)))
  have hcb := cnt_le (Tm (12 * hds (x0) + y0))
  refine v_iload_n C dX6_settle_16 rfl 1 rfl ?_
  refine v_ialdn C 8 (x0) rfl rfl (by omega) (by decide) dX6_settle_17 ?_
  refine v_iload_n C dX6_settle_18 rfl 2 rfl ?_
  refine v_invVI C (As := [.int (iI ((hds (x0) : Nat) : Int)), .int (iI ((y0 : Nat) : Int))]) (q0 := 0) (ci := 6) (kX6_sidesIn l g (mm := mm) (b1 := b1) (b2 := b2) (b3 := b3) (b4 := b4) (b5 := b5) (b6 := b6) (b7 := b7) (b8 := b8) (b9 := b9) (b10 := b10) (b11 := b11) (b12 := b12) (b13 := b13) (b14 := b14) (b15 := b15) (b16 := b16) (b17 := b17) (kinds := kinds) (tgs := tgs) (first := first) (second := second) (vals := vals) (qs := qs) (hds := hds) (An := An) (qi := qi) (qo := qo) (Tm := Tm) (Nw := Nw) (Kw := Kw) (ni := ni) (bc := bc) (cm := cm) (cn := cn) (qc := qc) (cd := 0) (ris := ris) (c0 := hds (x0)) (i0 := y0) (by omega) (by omega) (by omega) hS9.2) (cwV 2 C.2.2.2.2.1 gX6_settle_X6_sidesIn rfl rfl rfl (by decide +kernel) ⟨Nat.le_of_ble_eq_true rfl, Nat.le_of_ble_eq_true rfl⟩) [wMM g mm b1 b2 b3 b4 b5 b6 b7 b8 b9 b10 b11 b12 b13 b14 b15 b16 b17 kinds ni cm first second An An Tm Tm bc hds tgs qc qi qo qs cn vals Nw Nw Kw Kw 0] [0] [] [] (fun _ => [wMM g mm b1 b2 b3 b4 b5 b6 b7 b8 b9 b10 b11 b12 b13 b14 b15 b16 b17 kinds ni cm first second An An Tm Tm bc hds tgs qc qi qo qs cn vals Nw Nw Kw Kw 0]) (fun _ => wMM g mm b1 b2 b3 b4 b5 b6 b7 b8 b9 b10 b11 b12 b13 b14 b15 b16 b17 kinds ni cm first second An An Tm Tm bc hds tgs qc qi qo qs cn vals Nw Nw Kw Kw 0 ++ ([])) rfl rfl rfl (fun _ => rfl) (fun _ => rfl) (fun _ => rfl) (fun _ => rfl) rfl rfl rfl rfl rfl (Nat.le_of_ble_eq_true rfl) dX6_settle_19 ⟨by decide, by decide⟩ (fun r_4 _ h_3 => ?_)
  subst h_3
  refine v_istore C [(4, .int (iI ((cnt (Tm (12 * (hds (x0)) + y0)) : Nat) : Int))), (0, .ref (mm)), (1, .int (iI ((x0 : Nat) : Int))), (2, .int (iI ((y0 : Nat) : Int))), (3, .int (iI (z)))] dX6_settle_22 (by decide) rfl ?_
  refine v_aload_n C dX6_settle_24 rfl 1 rfl ?_
  refine v_iload C dX6_settle_25 0 rfl ?_
  refine v_iconst C (z := 1) dX6_settle_27 ?_
  refine v_icmp_ne C 35 dX6_settle_28 (by decide) (cnt31 _) (b31_lit _ rfl) (fun c_5 => ?_) (fun c_5 => ?_)
  ·
    refine v_iload_n C dX6_settle_35 rfl 4 rfl ?_
    refine v_iconst C (z := 0) dX6_settle_36 ?_
    refine v_iload C dX6_settle_37 0 rfl ?_
    refine v_iconst C (z := 1) dX6_settle_39 ?_
    refine v_isub C dX6_settle_40 ?_
    refine v_invSI C (As := [.int (iI (z)), .int (iI (0)), .int (iI ((((cnt (Tm (12 * (hds (x0)) + y0)) : Nat) : Int)) - 1))]) (kX6_in_f l g  (x := z) (y := 0) (z := (((cnt (Tm (12 * (hds (x0)) + y0)) : Nat) : Int)) - 1) ⟨by omega, by omega⟩ (b31_lit _ rfl) ⟨by omega, by omega⟩ (by omega)) (cwS 3 C.2.2.2.2.1 gX6_settle_X6_in rfl rfl rfl (by decide +kernel) ⟨Nat.le_of_ble_eq_true rfl, Nat.le_of_ble_eq_true rfl⟩) [wMM g mm b1 b2 b3 b4 b5 b6 b7 b8 b9 b10 b11 b12 b13 b14 b15 b16 b17 kinds ni cm first second An An Tm Tm bc hds tgs qc qi qo qs cn vals Nw Nw Kw Kw 0] [] [0] [.ref (mm)] (fun _ => [wMM g mm b1 b2 b3 b4 b5 b6 b7 b8 b9 b10 b11 b12 b13 b14 b15 b16 b17 kinds ni cm first second An An Tm Tm bc hds tgs qc qi qo qs cn vals Nw Nw Kw Kw 0]) (fun _ => wMM g mm b1 b2 b3 b4 b5 b6 b7 b8 b9 b10 b11 b12 b13 b14 b15 b16 b17 kinds ni cm first second An An Tm Tm bc hds tgs qc qi qo qs cn vals Nw Nw Kw Kw 0 ++ ([])) rfl rfl rfl (fun _ => rfl) (fun _ => rfl) (fun _ => rfl) (fun _ => rfl) rfl rfl (Nat.le_of_ble_eq_true rfl) dX6_settle_41 ⟨by decide, by decide⟩ (fun r_7 _ h_6 => ?_)
    subst h_6
    refine v_ifz_ne C 51 dX6_settle_44 (by decide) (fun h => nomatch h) (fun _ => ?_)
    refine v_iconst C (z := 3) dX6_settle_47 ?_
    refine v_goto C 57 dX6_settle_48 (by decide) ?_
    refine v_invVI C (As := [.int (iI (3))]) (q0 := 0) (ci := 6) (kX6_fails_p l g (mm := mm) (b1 := b1) (b2 := b2) (b3 := b3) (b4 := b4) (b5 := b5) (b6 := b6) (b7 := b7) (b8 := b8) (b9 := b9) (b10 := b10) (b11 := b11) (b12 := b12) (b13 := b13) (b14 := b14) (b15 := b15) (b16 := b16) (b17 := b17) (kinds := kinds) (tgs := tgs) (first := first) (second := second) (vals := vals) (qs := qs) (hds := hds) (An := An) (qi := qi) (qo := qo) (Tm := Tm) (Nw := Nw) (Kw := Kw) (ni := ni) (bc := bc) (cm := cm) (cn := cn) (qc := qc) (cd := 0) (ris := ris) (q := 3) (by decide)) (cwV 1 C.2.2.2.2.1 gX6_settle_X6_fails rfl rfl rfl (by decide +kernel) ⟨Nat.le_of_ble_eq_true rfl, Nat.le_of_ble_eq_true rfl⟩) [wMM g mm b1 b2 b3 b4 b5 b6 b7 b8 b9 b10 b11 b12 b13 b14 b15 b16 b17 kinds ni cm first second An An Tm Tm bc hds tgs qc qi qo qs cn vals Nw Nw Kw Kw 0] [0] [] [] (fun _ => [wMM g mm b1 b2 b3 b4 b5 b6 b7 b8 b9 b10 b11 b12 b13 b14 b15 b16 b17 kinds ni cm first second An An Tm Tm bc hds tgs qc qi qo qs cn vals Nw Nw Kw Kw 3]) (fun _ => wMM g mm b1 b2 b3 b4 b5 b6 b7 b8 b9 b10 b11 b12 b13 b14 b15 b16 b17 kinds ni cm first second An An Tm Tm bc hds tgs qc qi qo qs cn vals Nw Nw Kw Kw 3 ++ ([])) rfl rfl rfl (fun _ => rfl) (fun _ => rfl) (fun _ => rfl) (fun _ => rfl) rfl rfl rfl rfl rfl (Nat.le_of_ble_eq_true rfl) dX6_settle_57 ⟨by decide, by decide⟩ (fun r_9 _ h_8 => ?_)
    subst h_8
    refine v_ifz_eq C 65 dX6_settle_60 (by decide) (fun h => nomatch h) (fun _ => ?_)
    refine v_iconst C (z := 0) dX6_settle_63 ?_
    exact (v_iret C hr hl () (by decide) (by decide) rfl trivial dX6_settle_64)
  ·
    exfalso; omega
set_option maxHeartbeats 4000000 in
set_option maxRecDepth 100000 in
theorem kX6_settle_4 (l : Launch) (g : vG) {mm b1 b2 b3 b4 b5 b6 b7 b8 b9 b10 b11 b12 b13 b14 b15 b16 b17 : Nat} {kinds tgs first second vals qs : Nat → Int} {hds An qi qo Tm Nw Kw ris : Nat → Nat} {ni bc cm cn qc cd : Nat} {x0 : Nat} {y0 : Nat} {z : Int} (hI : MI vals ris cn kinds tgs first second qs hds An qi qo Tm ni bc cm qc) (hx0 : x0 < bc) (hy0 : y0 < ni) (hz : b31 z) (hk : 1 < cnt (Tm (12 * hds (x0) + y0))) (hz3 : 0 ≤ z) (hz4 : z < ((cnt (Tm (12 * hds (x0) + y0)) : Nat) : Int)) (hcf : cm = 100) : mI l g yX6_settle wsX6_settle ({ frames := 3, cells := 0, slots := 0, locals := 72 }) [.ref (mm), .int (iI ((x0 : Nat) : Int)), .int (iI ((y0 : Nat) : Int)), .int (iI (z))] (wMM g mm b1 b2 b3 b4 b5 b6 b7 b8 b9 b10 b11 b12 b13 b14 b15 b16 b17 kinds ni cm first second An An Tm Tm bc hds tgs qc qi qo qs cn vals Nw Nw Kw Kw cd ++ ([])) (fun _ : Unit => wMM g mm b1 b2 b3 b4 b5 b6 b7 b8 b9 b10 b11 b12 b13 b14 b15 b16 b17 kinds ni cm first second An An Tm Tm bc hds tgs qc qi qo qs cn vals Nw Nw Kw Kw 4 ++ ([])) (fun _ _ => True) 0 0 := by
  refine mI_of (cc := cX6_settle) (maxL := 6) (ret := (some .int)) (own := RX6) (by decide) rfl rfl (Nat.le_of_ble_eq_true rfl) ?_
  intro p e s m args below meth c A C hr hl hin
  obtain ⟨hni, hbc1, hbc, hcm1, hcm, hcn1, hnm, hqc, hhd, htg, hf, hs, hfc, hsc, hAn, hTm, hao, hpal, hqb, hqi, htk, hkd⟩ := id hI
  have hz1 := hz.1
  have hz2 := hz.2
  refine v_aload_n C dX6_settle_0 rfl 0 rfl ?_
  refine v_iload_n C dX6_settle_1 rfl 1 rfl ?_
  refine v_iload_n C dX6_settle_2 rfl 2 rfl ?_
  refine v_invVI C (As := [.int (iI ((x0 : Nat) : Int)), .int (iI ((y0 : Nat) : Int))]) (q0 := 0) (ci := 6) (kX6_isNowhere_in l g (mm := mm) (b1 := b1) (b2 := b2) (b3 := b3) (b4 := b4) (b5 := b5) (b6 := b6) (b7 := b7) (b8 := b8) (b9 := b9) (b10 := b10) (b11 := b11) (b12 := b12) (b13 := b13) (b14 := b14) (b15 := b15) (b16 := b16) (b17 := b17) (kinds := kinds) (tgs := tgs) (first := first) (second := second) (vals := vals) (qs := qs) (hds := hds) (An := An) (qi := qi) (qo := qo) (Tm := Tm) (Nw := Nw) (Kw := Kw) (ni := ni) (bc := bc) (cm := cm) (cn := cn) (qc := qc) (cd := cd) (ris := ris) (i0 := x0) (j0 := y0) (by omega) (by omega) (by omega) (by omega)) (cwV 2 C.2.2.2.2.1 gX6_settle_X6_isNowhere rfl rfl rfl (by decide +kernel) ⟨Nat.le_of_ble_eq_true rfl, Nat.le_of_ble_eq_true rfl⟩) [wMM g mm b1 b2 b3 b4 b5 b6 b7 b8 b9 b10 b11 b12 b13 b14 b15 b16 b17 kinds ni cm first second An An Tm Tm bc hds tgs qc qi qo qs cn vals Nw Nw Kw Kw cd] [0] [] [] (fun _ => [wMM g mm b1 b2 b3 b4 b5 b6 b7 b8 b9 b10 b11 b12 b13 b14 b15 b16 b17 kinds ni cm first second An An Tm Tm bc hds tgs qc qi qo qs cn vals Nw Nw Kw Kw 0]) (fun _ => wMM g mm b1 b2 b3 b4 b5 b6 b7 b8 b9 b10 b11 b12 b13 b14 b15 b16 b17 kinds ni cm first second An An Tm Tm bc hds tgs qc qi qo qs cn vals Nw Nw Kw Kw 0 ++ ([])) rfl rfl rfl (fun _ => rfl) (fun _ => rfl) (fun _ => rfl) (fun _ => rfl) rfl rfl rfl rfl rfl (Nat.le_of_ble_eq_true rfl) dX6_settle_3 ⟨by decide, by decide⟩ (fun r_2 _ h_1 => ?_)
  subst h_1
  refine v_ifz_eq C 11 dX6_settle_6 (by decide) (fun _ => ?_) (fun h => nomatch h) 
  refine v_aload_n C dX6_settle_11 rfl 0 rfl ?_
  refine v_aload_n C dX6_settle_12 rfl 0 rfl ?_
  refine v_get C 0 (kf := 10) rfl rfl (by decide) inX6_settle_6 lkX6_settle_40 rfl rfl dX6_settle_13 ?_
  have hhx := hhd x0
  have hS9 := htk _ hhx y0 hy0
  have hc0 := cnt_pos hS9.1 (Nat.lt_of_lt_of_le hS9.2 (Nat.pow_le_pow_right (by decide) (by omega)))
  have hcb := cnt_le (Tm (12 * hds (x0) + y0))
  refine v_iload_n C dX6_settle_16 rfl 1 rfl ?_
  refine v_ialdn C 8 (x0) rfl rfl (by omega) (by decide) dX6_settle_17 ?_
  refine v_iload_n C dX6_settle_18 rfl 2 rfl ?_
  refine v_invVI C (As := [.int (iI ((hds (x0) : Nat) : Int)), .int (iI ((y0 : Nat) : Int))]) (q0 := 0) (ci := 6) (kX6_sidesIn l g (mm := mm) (b1 := b1) (b2 := b2) (b3 := b3) (b4 := b4) (b5 := b5) (b6 := b6) (b7 := b7) (b8 := b8) (b9 := b9) (b10 := b10) (b11 := b11) (b12 := b12) (b13 := b13) (b14 := b14) (b15 := b15) (b16 := b16) (b17 := b17) (kinds := kinds) (tgs := tgs) (first := first) (second := second) (vals := vals) (qs := qs) (hds := hds) (An := An) (qi := qi) (qo := qo) (Tm := Tm) (Nw := Nw) (Kw := Kw) (ni := ni) (bc := bc) (cm := cm) (cn := cn) (qc := qc) (cd := 0) (ris := ris) (c0 := hds (x0)) (i0 := y0) (by omega) (by omega) (by omega) hS9.2) (cwV 2 C.2.2.2.2.1 gX6_settle_X6_sidesIn rfl rfl rfl (by decide +kernel) ⟨Nat.le_of_ble_eq_true rfl, Nat.le_of_ble_eq_true rfl⟩) [wMM g mm b1 b2 b3 b4 b5 b6 b7 b8 b9 b10 b11 b12 b13 b14 b15 b16 b17 kinds ni cm first second An An Tm Tm bc hds tgs qc qi qo qs cn vals Nw Nw Kw Kw 0] [0] [] [] (fun _ => [wMM g mm b1 b2 b3 b4 b5 b6 b7 b8 b9 b10 b11 b12 b13 b14 b15 b16 b17 kinds ni cm first second An An Tm Tm bc hds tgs qc qi qo qs cn vals Nw Nw Kw Kw 0]) (fun _ => wMM g mm b1 b2 b3 b4 b5 b6 b7 b8 b9 b10 b11 b12 b13 b14 b15 b16 b17 kinds ni cm first second An An Tm Tm bc hds tgs qc qi qo qs cn vals Nw Nw Kw Kw 0 ++ ([])) rfl rfl rfl (fun _ => rfl) (fun _ => rfl) (fun _ => rfl) (fun _ => rfl) rfl rfl rfl rfl rfl (Nat.le_of_ble_eq_true rfl) dX6_settle_19 ⟨by decide, by decide⟩ (fun r_4 _ h_3 => ?_)
  subst h_3
  refine v_istore C [(4, .int (iI ((cnt (Tm (12 * (hds (x0)) + y0)) : Nat) : Int))), (0, .ref (mm)), (1, .int (iI ((x0 : Nat) : Int))), (2, .int (iI ((y0 : Nat) : Int))), (3, .int (iI (z)))] dX6_settle_22 (by decide) rfl ?_
  refine v_aload_n C dX6_settle_24 rfl 1 rfl ?_
  refine v_iload C dX6_settle_25 0 rfl ?_
  refine v_iconst C (z := 1) dX6_settle_27 ?_
  refine v_icmp_ne C 35 dX6_settle_28 (by decide) (cnt31 _) (b31_lit _ rfl) (fun c_5 => ?_) (fun c_5 => ?_)
  ·
    refine v_iload_n C dX6_settle_35 rfl 4 rfl ?_
    refine v_iconst C (z := 0) dX6_settle_36 ?_
    refine v_iload C dX6_settle_37 0 rfl ?_
    refine v_iconst C (z := 1) dX6_settle_39 ?_
    refine v_isub C dX6_settle_40 ?_
    refine v_invSI C (As := [.int (iI (z)), .int (iI (0)), .int (iI ((((cnt (Tm (12 * (hds (x0)) + y0)) : Nat) : Int)) - 1))]) (kX6_in_t l g  (x := z) (y := 0) (z := (((cnt (Tm (12 * (hds (x0)) + y0)) : Nat) : Int)) - 1) ⟨by omega, by omega⟩ (b31_lit _ rfl) ⟨by omega, by omega⟩ (by omega) (by omega)) (cwS 3 C.2.2.2.2.1 gX6_settle_X6_in rfl rfl rfl (by decide +kernel) ⟨Nat.le_of_ble_eq_true rfl, Nat.le_of_ble_eq_true rfl⟩) [wMM g mm b1 b2 b3 b4 b5 b6 b7 b8 b9 b10 b11 b12 b13 b14 b15 b16 b17 kinds ni cm first second An An Tm Tm bc hds tgs qc qi qo qs cn vals Nw Nw Kw Kw 0] [] [0] [.ref (mm)] (fun _ => [wMM g mm b1 b2 b3 b4 b5 b6 b7 b8 b9 b10 b11 b12 b13 b14 b15 b16 b17 kinds ni cm first second An An Tm Tm bc hds tgs qc qi qo qs cn vals Nw Nw Kw Kw 0]) (fun _ => wMM g mm b1 b2 b3 b4 b5 b6 b7 b8 b9 b10 b11 b12 b13 b14 b15 b16 b17 kinds ni cm first second An An Tm Tm bc hds tgs qc qi qo qs cn vals Nw Nw Kw Kw 0 ++ ([])) rfl rfl rfl (fun _ => rfl) (fun _ => rfl) (fun _ => rfl) (fun _ => rfl) rfl rfl (Nat.le_of_ble_eq_true rfl) dX6_settle_41 ⟨by decide, by decide⟩ (fun r_7 _ h_6 => ?_)
    subst h_6
    refine v_ifz_ne C 51 dX6_settle_44 (by decide) (fun _ => ?_) (fun h => nomatch h) 
    refine v_iconst C (z := 4) dX6_settle_51 ?_
    refine v_aload_n C dX6_settle_52 rfl 1 rfl ?_
    refine v_invVI C (As := []) (q0 := 0) (ci := 6) (kX6_full_y l g (mm := mm) (b1 := b1) (b2 := b2) (b3 := b3) (b4 := b4) (b5 := b5) (b6 := b6) (b7 := b7) (b8 := b8) (b9 := b9) (b10 := b10) (b11 := b11) (b12 := b12) (b13 := b13) (b14 := b14) (b15 := b15) (b16 := b16) (b17 := b17) (kinds := kinds) (tgs := tgs) (first := first) (second := second) (vals := vals) (qs := qs) (hds := hds) (An := An) (qi := qi) (qo := qo) (Tm := Tm) (Nw := Nw) (Kw := Kw) (ni := ni) (bc := bc) (cm := cm) (cn := cn) (qc := qc) (cd := 0) (ris := ris)  (by omega)) (cwV 0 C.2.2.2.2.1 gX6_settle_X6_full rfl rfl rfl (by decide +kernel) ⟨Nat.le_of_ble_eq_true rfl, Nat.le_of_ble_eq_true rfl⟩) [wMM g mm b1 b2 b3 b4 b5 b6 b7 b8 b9 b10 b11 b12 b13 b14 b15 b16 b17 kinds ni cm first second An An Tm Tm bc hds tgs qc qi qo qs cn vals Nw Nw Kw Kw 0] [0] [] [.int (iI (4)), .ref (mm)] (fun _ => [wMM g mm b1 b2 b3 b4 b5 b6 b7 b8 b9 b10 b11 b12 b13 b14 b15 b16 b17 kinds ni cm first second An An Tm Tm bc hds tgs qc qi qo qs cn vals Nw Nw Kw Kw 0]) (fun _ => wMM g mm b1 b2 b3 b4 b5 b6 b7 b8 b9 b10 b11 b12 b13 b14 b15 b16 b17 kinds ni cm first second An An Tm Tm bc hds tgs qc qi qo qs cn vals Nw Nw Kw Kw 0 ++ ([])) rfl rfl rfl (fun _ => rfl) (fun _ => rfl) (fun _ => rfl) (fun _ => rfl) rfl rfl rfl rfl rfl (Nat.le_of_ble_eq_true rfl) dX6_settle_53 ⟨by decide, by decide⟩ (fun r_9 _ h_8 => ?_)
    subst h_8
    refine v_imul C dX6_settle_56 ?_
    refine v_st (st' := [.int (iI (4)), .ref (mm)]) rfl ?_
    refine v_invVI C (As := [.int (iI (4))]) (q0 := 0) (ci := 6) (kX6_fails_p l g (mm := mm) (b1 := b1) (b2 := b2) (b3 := b3) (b4 := b4) (b5 := b5) (b6 := b6) (b7 := b7) (b8 := b8) (b9 := b9) (b10 := b10) (b11 := b11) (b12 := b12) (b13 := b13) (b14 := b14) (b15 := b15) (b16 := b16) (b17 := b17) (kinds := kinds) (tgs := tgs) (first := first) (second := second) (vals := vals) (qs := qs) (hds := hds) (An := An) (qi := qi) (qo := qo) (Tm := Tm) (Nw := Nw) (Kw := Kw) (ni := ni) (bc := bc) (cm := cm) (cn := cn) (qc := qc) (cd := 0) (ris := ris) (q := 4) (by decide)) (cwV 1 C.2.2.2.2.1 gX6_settle_X6_fails rfl rfl rfl (by decide +kernel) ⟨Nat.le_of_ble_eq_true rfl, Nat.le_of_ble_eq_true rfl⟩) [wMM g mm b1 b2 b3 b4 b5 b6 b7 b8 b9 b10 b11 b12 b13 b14 b15 b16 b17 kinds ni cm first second An An Tm Tm bc hds tgs qc qi qo qs cn vals Nw Nw Kw Kw 0] [0] [] [] (fun _ => [wMM g mm b1 b2 b3 b4 b5 b6 b7 b8 b9 b10 b11 b12 b13 b14 b15 b16 b17 kinds ni cm first second An An Tm Tm bc hds tgs qc qi qo qs cn vals Nw Nw Kw Kw 4]) (fun _ => wMM g mm b1 b2 b3 b4 b5 b6 b7 b8 b9 b10 b11 b12 b13 b14 b15 b16 b17 kinds ni cm first second An An Tm Tm bc hds tgs qc qi qo qs cn vals Nw Nw Kw Kw 4 ++ ([])) rfl rfl rfl (fun _ => rfl) (fun _ => rfl) (fun _ => rfl) (fun _ => rfl) rfl rfl rfl rfl rfl (Nat.le_of_ble_eq_true rfl) dX6_settle_57 ⟨by decide, by decide⟩ (fun r_11 _ h_10 => ?_)
    subst h_10
    refine v_ifz_eq C 65 dX6_settle_60 (by decide) (fun h => nomatch h) (fun _ => ?_)
    refine v_iconst C (z := 0) dX6_settle_63 ?_
    exact (v_iret C hr hl () (by decide) (by decide) rfl trivial dX6_settle_64)
  ·
    exfalso; omega
theorem inX6_tag_6 : ∀ w ∈ u_ws RX6 TX6 23, w ∈ wsX6_tag := by decide +kernel
theorem lkX6_tag_43 : Cond.fieldLink RX6 43 "MergeAtelierModel" "tags" "[I" ∈ wsX6_tag := by decide +kernel
set_option maxHeartbeats 4000000 in
set_option maxRecDepth 100000 in
theorem kX6_tag_ok (l : Launch) (g : vG) {mm b1 b2 b3 b4 b5 b6 b7 b8 b9 b10 b11 b12 b13 b14 b15 b16 b17 : Nat} {kinds tgs first second vals qs : Nat → Int} {hds An qi qo Tm Nw Kw ris : Nat → Nat} {ni bc cm cn qc cd : Nat} {x0 : Nat} {y0 : Nat} (hI : MI vals ris cn kinds tgs first second qs hds An qi qo Tm ni bc cm qc) (hx0 : x0 < 10) (hy0 : y0 < cm)  : mI l g yX6_tag wsX6_tag ({ frames := 3, cells := 0, slots := 0, locals := 64 }) [.ref (mm), .int (iI ((x0 : Nat) : Int)), .int (iI ((y0 : Nat) : Int))] (wMM g mm b1 b2 b3 b4 b5 b6 b7 b8 b9 b10 b11 b12 b13 b14 b15 b16 b17 kinds ni cm first second An An Tm Tm bc hds tgs qc qi qo qs cn vals Nw Nw Kw Kw cd ++ ([])) (fun _ : Unit => wMM g mm b1 b2 b3 b4 b5 b6 b7 b8 b9 b10 b11 b12 b13 b14 b15 b16 b17 kinds ni cm first second An An Tm Tm bc hds (updZ tgs (x0) (((y0 : Nat) : Int))) qc qi qo qs cn vals Nw Nw Kw Kw 0 ++ ([])) (fun v _ => v = iI (tgs (x0))) 0 0 := by
  refine mI_of (cc := cX6_tag) (maxL := 4) (ret := (some .int)) (own := RX6) (by decide) rfl rfl (Nat.le_of_ble_eq_true rfl) ?_
  intro p e s m args below meth c A C hr hl hin
  obtain ⟨hni, hbc1, hbc, hcm1, hcm, hcn1, hnm, hqc, hhd, htg, hf, hs, hfc, hsc, hAn, hTm, hao, hpal, hqb, hqi, htk, hkd⟩ := id hI
  refine v_aload_n C dX6_tag_0 rfl 0 rfl ?_
  refine v_iload_n C dX6_tag_1 rfl 2 rfl ?_
  refine v_invVI C (As := [.int (iI ((y0 : Nat) : Int))]) (q0 := 0) (ci := 6) (kX6_isNone_in l g (mm := mm) (b1 := b1) (b2 := b2) (b3 := b3) (b4 := b4) (b5 := b5) (b6 := b6) (b7 := b7) (b8 := b8) (b9 := b9) (b10 := b10) (b11 := b11) (b12 := b12) (b13 := b13) (b14 := b14) (b15 := b15) (b16 := b16) (b17 := b17) (kinds := kinds) (tgs := tgs) (first := first) (second := second) (vals := vals) (qs := qs) (hds := hds) (An := An) (qi := qi) (qo := qo) (Tm := Tm) (Nw := Nw) (Kw := Kw) (ni := ni) (bc := bc) (cm := cm) (cn := cn) (qc := qc) (cd := cd) (ris := ris) (i0 := y0) (by omega) (by omega)) (cwV 1 C.2.2.2.2.1 gX6_tag_X6_isNone rfl rfl rfl (by decide +kernel) ⟨Nat.le_of_ble_eq_true rfl, Nat.le_of_ble_eq_true rfl⟩) [wMM g mm b1 b2 b3 b4 b5 b6 b7 b8 b9 b10 b11 b12 b13 b14 b15 b16 b17 kinds ni cm first second An An Tm Tm bc hds tgs qc qi qo qs cn vals Nw Nw Kw Kw cd] [0] [] [] (fun _ => [wMM g mm b1 b2 b3 b4 b5 b6 b7 b8 b9 b10 b11 b12 b13 b14 b15 b16 b17 kinds ni cm first second An An Tm Tm bc hds tgs qc qi qo qs cn vals Nw Nw Kw Kw 0]) (fun _ => wMM g mm b1 b2 b3 b4 b5 b6 b7 b8 b9 b10 b11 b12 b13 b14 b15 b16 b17 kinds ni cm first second An An Tm Tm bc hds tgs qc qi qo qs cn vals Nw Nw Kw Kw 0 ++ ([])) rfl rfl rfl (fun _ => rfl) (fun _ => rfl) (fun _ => rfl) (fun _ => rfl) rfl rfl rfl rfl rfl (Nat.le_of_ble_eq_true rfl) dX6_tag_2 ⟨by decide, by decide⟩ (fun r_2 _ h_1 => ?_)
  subst h_1
  refine v_ifz_ne C 30 dX6_tag_5 (by decide) (fun h => nomatch h) (fun _ => ?_)
  refine v_aload_n C dX6_tag_8 rfl 0 rfl ?_
  refine v_iload_n C dX6_tag_9 rfl 1 rfl ?_
  refine v_iconst C (z := 0) dX6_tag_10 ?_
  refine v_bipush C (z := 9) dX6_tag_11 rfl ?_
  refine v_invSI C (As := [.int (iI ((x0 : Nat) : Int)), .int (iI (0)), .int (iI (9))]) (kX6_in_t l g  (x := ((x0 : Nat) : Int)) (y := 0) (z := 9) ⟨by omega, by omega⟩ (b31_lit _ rfl) (b31_lit _ rfl) (by omega) (by omega)) (cwS 3 C.2.2.2.2.1 gX6_tag_X6_in rfl rfl rfl (by decide +kernel) ⟨Nat.le_of_ble_eq_true rfl, Nat.le_of_ble_eq_true rfl⟩) [wMM g mm b1 b2 b3 b4 b5 b6 b7 b8 b9 b10 b11 b12 b13 b14 b15 b16 b17 kinds ni cm first second An An Tm Tm bc hds tgs qc qi qo qs cn vals Nw Nw Kw Kw 0] [] [0] [.ref (mm)] (fun _ => [wMM g mm b1 b2 b3 b4 b5 b6 b7 b8 b9 b10 b11 b12 b13 b14 b15 b16 b17 kinds ni cm first second An An Tm Tm bc hds tgs qc qi qo qs cn vals Nw Nw Kw Kw 0]) (fun _ => wMM g mm b1 b2 b3 b4 b5 b6 b7 b8 b9 b10 b11 b12 b13 b14 b15 b16 b17 kinds ni cm first second An An Tm Tm bc hds tgs qc qi qo qs cn vals Nw Nw Kw Kw 0 ++ ([])) rfl rfl rfl (fun _ => rfl) (fun _ => rfl) (fun _ => rfl) (fun _ => rfl) rfl rfl (Nat.le_of_ble_eq_true rfl) dX6_tag_13 ⟨by decide, by decide⟩ (fun r_4 _ h_3 => ?_)
  subst h_3
  refine v_ifz_eq C 23 dX6_tag_16 (by decide) (fun h => nomatch h) (fun _ => ?_)
  refine v_iconst C (z := 0) dX6_tag_19 ?_
  refine v_goto C 24 dX6_tag_20 (by decide) ?_
  refine v_invVI C (As := [.int (iI (0))]) (q0 := 0) (ci := 6) (kX6_fails_z l g (mm := mm) (b1 := b1) (b2 := b2) (b3 := b3) (b4 := b4) (b5 := b5) (b6 := b6) (b7 := b7) (b8 := b8) (b9 := b9) (b10 := b10) (b11 := b11) (b12 := b12) (b13 := b13) (b14 := b14) (b15 := b15) (b16 := b16) (b17 := b17) (kinds := kinds) (tgs := tgs) (first := first) (second := second) (vals := vals) (qs := qs) (hds := hds) (An := An) (qi := qi) (qo := qo) (Tm := Tm) (Nw := Nw) (Kw := Kw) (ni := ni) (bc := bc) (cm := cm) (cn := cn) (qc := qc) (cd := 0) (ris := ris)  ) (cwV 1 C.2.2.2.2.1 gX6_tag_X6_fails rfl rfl rfl (by decide +kernel) ⟨Nat.le_of_ble_eq_true rfl, Nat.le_of_ble_eq_true rfl⟩) [wMM g mm b1 b2 b3 b4 b5 b6 b7 b8 b9 b10 b11 b12 b13 b14 b15 b16 b17 kinds ni cm first second An An Tm Tm bc hds tgs qc qi qo qs cn vals Nw Nw Kw Kw 0] [0] [] [] (fun _ => [wMM g mm b1 b2 b3 b4 b5 b6 b7 b8 b9 b10 b11 b12 b13 b14 b15 b16 b17 kinds ni cm first second An An Tm Tm bc hds tgs qc qi qo qs cn vals Nw Nw Kw Kw 0]) (fun _ => wMM g mm b1 b2 b3 b4 b5 b6 b7 b8 b9 b10 b11 b12 b13 b14 b15 b16 b17 kinds ni cm first second An An Tm Tm bc hds tgs qc qi qo qs cn vals Nw Nw Kw Kw 0 ++ ([])) rfl rfl rfl (fun _ => rfl) (fun _ => rfl) (fun _ => rfl) (fun _ => rfl) rfl rfl rfl rfl rfl (Nat.le_of_ble_eq_true rfl) dX6_tag_24 ⟨by decide, by decide⟩ (fun r_6 _ h_5 => ?_)
  subst h_5
  refine v_ifz_eq C 32 dX6_tag_27 (by decide) (fun _ => ?_) (fun h => nomatch h) 
  refine v_aload_n C dX6_tag_32 rfl 0 rfl ?_
  refine v_get C 0 (kf := 11) rfl rfl (by decide) inX6_tag_6 lkX6_tag_43 rfl rfl dX6_tag_33 ?_
  refine v_iload_n C dX6_tag_36 rfl 1 rfl ?_
  refine v_iald C 9 (x0) rfl rfl (by omega) (by decide) dX6_tag_37 ?_
  refine v_istore_n C [(3, .int (iI (tgs (x0)))), (0, .ref (mm)), (1, .int (iI ((x0 : Nat) : Int))), (2, .int (iI ((y0 : Nat) : Int)))] dX6_tag_38 rfl (by decide) rfl ?_
  refine v_aload_n C dX6_tag_39 rfl 1 rfl ?_
  refine v_get C 0 (kf := 11) rfl rfl (by decide) inX6_tag_6 lkX6_tag_43 rfl rfl dX6_tag_40 ?_
  refine v_iload_n C dX6_tag_43 rfl 2 rfl ?_
  refine v_iload_n C dX6_tag_44 rfl 3 rfl ?_
  refine v_iast C 9 (x0) (wMM g mm b1 b2 b3 b4 b5 b6 b7 b8 b9 b10 b11 b12 b13 b14 b15 b16 b17 kinds ni cm first second An An Tm Tm bc hds (updZ tgs (x0) (((y0 : Nat) : Int))) qc qi qo qs cn vals Nw Nw Kw Kw 0 ++ ([])) rfl rfl (by omega) (by decide) dX6_tag_45 rfl ?_
  refine v_iload_n C dX6_tag_46 rfl 0 rfl ?_
  exact (v_iret C hr hl () (by decide) (by decide) rfl rfl dX6_tag_47)
set_option maxHeartbeats 4000000 in
set_option maxRecDepth 100000 in
theorem kX6_tag_b (l : Launch) (g : vG) {mm b1 b2 b3 b4 b5 b6 b7 b8 b9 b10 b11 b12 b13 b14 b15 b16 b17 : Nat} {kinds tgs first second vals qs : Nat → Int} {hds An qi qo Tm Nw Kw ris : Nat → Nat} {ni bc cm cn qc cd : Nat} {x : Int} {y : Int} (hI : MI vals ris cn kinds tgs first second qs hds An qi qo Tm ni bc cm qc) (hx : b31 x) (hy : b31 y) (hqy : ¬ (0 ≤ y ∧ y < ((cm : Nat) : Int)))  : mI l g yX6_tag wsX6_tag ({ frames := 3, cells := 0, slots := 0, locals := 64 }) [.ref (mm), .int (iI (x)), .int (iI (y))] (wMM g mm b1 b2 b3 b4 b5 b6 b7 b8 b9 b10 b11 b12 b13 b14 b15 b16 b17 kinds ni cm first second An An Tm Tm bc hds tgs qc qi qo qs cn vals Nw Nw Kw Kw cd ++ ([])) (fun _ : Unit => wMM g mm b1 b2 b3 b4 b5 b6 b7 b8 b9 b10 b11 b12 b13 b14 b15 b16 b17 kinds ni cm first second An An Tm Tm bc hds tgs qc qi qo qs cn vals Nw Nw Kw Kw 1 ++ ([])) (fun _ _ => True) 0 0 := by
  refine mI_of (cc := cX6_tag) (maxL := 4) (ret := (some .int)) (own := RX6) (by decide) rfl rfl (Nat.le_of_ble_eq_true rfl) ?_
  intro p e s m args below meth c A C hr hl hin
  obtain ⟨hni, hbc1, hbc, hcm1, hcm, hcn1, hnm, hqc, hhd, htg, hf, hs, hfc, hsc, hAn, hTm, hao, hpal, hqb, hqi, htk, hkd⟩ := id hI
  have hx1 := hx.1
  have hx2 := hx.2
  have hy1 := hy.1
  have hy2 := hy.2
  refine v_aload_n C dX6_tag_0 rfl 0 rfl ?_
  refine v_iload_n C dX6_tag_1 rfl 2 rfl ?_
  refine v_invVI C (As := [.int (iI (y))]) (q0 := 0) (ci := 6) (kX6_isNone_out l g (mm := mm) (b1 := b1) (b2 := b2) (b3 := b3) (b4 := b4) (b5 := b5) (b6 := b6) (b7 := b7) (b8 := b8) (b9 := b9) (b10 := b10) (b11 := b11) (b12 := b12) (b13 := b13) (b14 := b14) (b15 := b15) (b16 := b16) (b17 := b17) (kinds := kinds) (tgs := tgs) (first := first) (second := second) (vals := vals) (qs := qs) (hds := hds) (An := An) (qi := qi) (qo := qo) (Tm := Tm) (Nw := Nw) (Kw := Kw) (ni := ni) (bc := bc) (cm := cm) (cn := cn) (qc := qc) (cd := cd) (ris := ris) (x := y) ⟨by omega, by omega⟩ (by omega) (by omega)) (cwV 1 C.2.2.2.2.1 gX6_tag_X6_isNone rfl rfl rfl (by decide +kernel) ⟨Nat.le_of_ble_eq_true rfl, Nat.le_of_ble_eq_true rfl⟩) [wMM g mm b1 b2 b3 b4 b5 b6 b7 b8 b9 b10 b11 b12 b13 b14 b15 b16 b17 kinds ni cm first second An An Tm Tm bc hds tgs qc qi qo qs cn vals Nw Nw Kw Kw cd] [0] [] [] (fun _ => [wMM g mm b1 b2 b3 b4 b5 b6 b7 b8 b9 b10 b11 b12 b13 b14 b15 b16 b17 kinds ni cm first second An An Tm Tm bc hds tgs qc qi qo qs cn vals Nw Nw Kw Kw 1]) (fun _ => wMM g mm b1 b2 b3 b4 b5 b6 b7 b8 b9 b10 b11 b12 b13 b14 b15 b16 b17 kinds ni cm first second An An Tm Tm bc hds tgs qc qi qo qs cn vals Nw Nw Kw Kw 1 ++ ([])) rfl rfl rfl (fun _ => rfl) (fun _ => rfl) (fun _ => rfl) (fun _ => rfl) rfl rfl rfl rfl rfl (Nat.le_of_ble_eq_true rfl) dX6_tag_2 ⟨by decide, by decide⟩ (fun r_2 _ h_1 => ?_)
  subst h_1
  refine v_ifz_ne C 30 dX6_tag_5 (by decide) (fun _ => ?_) (fun h => nomatch h) 
  refine v_iconst C (z := 0) dX6_tag_30 ?_
  exact (v_iret C hr hl () (by decide) (by decide) rfl trivial dX6_tag_31)
set_option maxHeartbeats 4000000 in
set_option maxRecDepth 100000 in
theorem kX6_tag_2 (l : Launch) (g : vG) {mm b1 b2 b3 b4 b5 b6 b7 b8 b9 b10 b11 b12 b13 b14 b15 b16 b17 : Nat} {kinds tgs first second vals qs : Nat → Int} {hds An qi qo Tm Nw Kw ris : Nat → Nat} {ni bc cm cn qc cd : Nat} {x : Int} {y0 : Nat} (hI : MI vals ris cn kinds tgs first second qs hds An qi qo Tm ni bc cm qc) (hx : b31 x) (hqx : ¬ (0 ≤ x ∧ x < ((10 : Nat) : Int))) (hy0 : y0 < cm)  : mI l g yX6_tag wsX6_tag ({ frames := 3, cells := 0, slots := 0, locals := 64 }) [.ref (mm), .int (iI (x)), .int (iI ((y0 : Nat) : Int))] (wMM g mm b1 b2 b3 b4 b5 b6 b7 b8 b9 b10 b11 b12 b13 b14 b15 b16 b17 kinds ni cm first second An An Tm Tm bc hds tgs qc qi qo qs cn vals Nw Nw Kw Kw cd ++ ([])) (fun _ : Unit => wMM g mm b1 b2 b3 b4 b5 b6 b7 b8 b9 b10 b11 b12 b13 b14 b15 b16 b17 kinds ni cm first second An An Tm Tm bc hds tgs qc qi qo qs cn vals Nw Nw Kw Kw 2 ++ ([])) (fun _ _ => True) 0 0 := by
  refine mI_of (cc := cX6_tag) (maxL := 4) (ret := (some .int)) (own := RX6) (by decide) rfl rfl (Nat.le_of_ble_eq_true rfl) ?_
  intro p e s m args below meth c A C hr hl hin
  obtain ⟨hni, hbc1, hbc, hcm1, hcm, hcn1, hnm, hqc, hhd, htg, hf, hs, hfc, hsc, hAn, hTm, hao, hpal, hqb, hqi, htk, hkd⟩ := id hI
  have hx1 := hx.1
  have hx2 := hx.2
  refine v_aload_n C dX6_tag_0 rfl 0 rfl ?_
  refine v_iload_n C dX6_tag_1 rfl 2 rfl ?_
  refine v_invVI C (As := [.int (iI ((y0 : Nat) : Int))]) (q0 := 0) (ci := 6) (kX6_isNone_in l g (mm := mm) (b1 := b1) (b2 := b2) (b3 := b3) (b4 := b4) (b5 := b5) (b6 := b6) (b7 := b7) (b8 := b8) (b9 := b9) (b10 := b10) (b11 := b11) (b12 := b12) (b13 := b13) (b14 := b14) (b15 := b15) (b16 := b16) (b17 := b17) (kinds := kinds) (tgs := tgs) (first := first) (second := second) (vals := vals) (qs := qs) (hds := hds) (An := An) (qi := qi) (qo := qo) (Tm := Tm) (Nw := Nw) (Kw := Kw) (ni := ni) (bc := bc) (cm := cm) (cn := cn) (qc := qc) (cd := cd) (ris := ris) (i0 := y0) (by omega) (by omega)) (cwV 1 C.2.2.2.2.1 gX6_tag_X6_isNone rfl rfl rfl (by decide +kernel) ⟨Nat.le_of_ble_eq_true rfl, Nat.le_of_ble_eq_true rfl⟩) [wMM g mm b1 b2 b3 b4 b5 b6 b7 b8 b9 b10 b11 b12 b13 b14 b15 b16 b17 kinds ni cm first second An An Tm Tm bc hds tgs qc qi qo qs cn vals Nw Nw Kw Kw cd] [0] [] [] (fun _ => [wMM g mm b1 b2 b3 b4 b5 b6 b7 b8 b9 b10 b11 b12 b13 b14 b15 b16 b17 kinds ni cm first second An An Tm Tm bc hds tgs qc qi qo qs cn vals Nw Nw Kw Kw 0]) (fun _ => wMM g mm b1 b2 b3 b4 b5 b6 b7 b8 b9 b10 b11 b12 b13 b14 b15 b16 b17 kinds ni cm first second An An Tm Tm bc hds tgs qc qi qo qs cn vals Nw Nw Kw Kw 0 ++ ([])) rfl rfl rfl (fun _ => rfl) (fun _ => rfl) (fun _ => rfl) (fun _ => rfl) rfl rfl rfl rfl rfl (Nat.le_of_ble_eq_true rfl) dX6_tag_2 ⟨by decide, by decide⟩ (fun r_2 _ h_1 => ?_)
  subst h_1
  refine v_ifz_ne C 30 dX6_tag_5 (by decide) (fun h => nomatch h) (fun _ => ?_)
  refine v_aload_n C dX6_tag_8 rfl 0 rfl ?_
  refine v_iload_n C dX6_tag_9 rfl 1 rfl ?_
  refine v_iconst C (z := 0) dX6_tag_10 ?_
  refine v_bipush C (z := 9) dX6_tag_11 rfl ?_
  refine v_invSI C (As := [.int (iI (x)), .int (iI (0)), .int (iI (9))]) (kX6_in_f l g  (x := x) (y := 0) (z := 9) ⟨by omega, by omega⟩ (b31_lit _ rfl) (b31_lit _ rfl) (by omega)) (cwS 3 C.2.2.2.2.1 gX6_tag_X6_in rfl rfl rfl (by decide +kernel) ⟨Nat.le_of_ble_eq_true rfl, Nat.le_of_ble_eq_true rfl⟩) [wMM g mm b1 b2 b3 b4 b5 b6 b7 b8 b9 b10 b11 b12 b13 b14 b15 b16 b17 kinds ni cm first second An An Tm Tm bc hds tgs qc qi qo qs cn vals Nw Nw Kw Kw 0] [] [0] [.ref (mm)] (fun _ => [wMM g mm b1 b2 b3 b4 b5 b6 b7 b8 b9 b10 b11 b12 b13 b14 b15 b16 b17 kinds ni cm first second An An Tm Tm bc hds tgs qc qi qo qs cn vals Nw Nw Kw Kw 0]) (fun _ => wMM g mm b1 b2 b3 b4 b5 b6 b7 b8 b9 b10 b11 b12 b13 b14 b15 b16 b17 kinds ni cm first second An An Tm Tm bc hds tgs qc qi qo qs cn vals Nw Nw Kw Kw 0 ++ ([])) rfl rfl rfl (fun _ => rfl) (fun _ => rfl) (fun _ => rfl) (fun _ => rfl) rfl rfl (Nat.le_of_ble_eq_true rfl) dX6_tag_13 ⟨by decide, by decide⟩ (fun r_4 _ h_3 => ?_)
  subst h_3
  refine v_ifz_eq C 23 dX6_tag_16 (by decide) (fun _ => ?_) (fun h => nomatch h) 
  refine v_iconst C (z := 2) dX6_tag_23 ?_
  refine v_invVI C (As := [.int (iI (2))]) (q0 := 0) (ci := 6) (kX6_fails_p l g (mm := mm) (b1 := b1) (b2 := b2) (b3 := b3) (b4 := b4) (b5 := b5) (b6 := b6) (b7 := b7) (b8 := b8) (b9 := b9) (b10 := b10) (b11 := b11) (b12 := b12) (b13 := b13) (b14 := b14) (b15 := b15) (b16 := b16) (b17 := b17) (kinds := kinds) (tgs := tgs) (first := first) (second := second) (vals := vals) (qs := qs) (hds := hds) (An := An) (qi := qi) (qo := qo) (Tm := Tm) (Nw := Nw) (Kw := Kw) (ni := ni) (bc := bc) (cm := cm) (cn := cn) (qc := qc) (cd := 0) (ris := ris) (q := 2) (by decide)) (cwV 1 C.2.2.2.2.1 gX6_tag_X6_fails rfl rfl rfl (by decide +kernel) ⟨Nat.le_of_ble_eq_true rfl, Nat.le_of_ble_eq_true rfl⟩) [wMM g mm b1 b2 b3 b4 b5 b6 b7 b8 b9 b10 b11 b12 b13 b14 b15 b16 b17 kinds ni cm first second An An Tm Tm bc hds tgs qc qi qo qs cn vals Nw Nw Kw Kw 0] [0] [] [] (fun _ => [wMM g mm b1 b2 b3 b4 b5 b6 b7 b8 b9 b10 b11 b12 b13 b14 b15 b16 b17 kinds ni cm first second An An Tm Tm bc hds tgs qc qi qo qs cn vals Nw Nw Kw Kw 2]) (fun _ => wMM g mm b1 b2 b3 b4 b5 b6 b7 b8 b9 b10 b11 b12 b13 b14 b15 b16 b17 kinds ni cm first second An An Tm Tm bc hds tgs qc qi qo qs cn vals Nw Nw Kw Kw 2 ++ ([])) rfl rfl rfl (fun _ => rfl) (fun _ => rfl) (fun _ => rfl) (fun _ => rfl) rfl rfl rfl rfl rfl (Nat.le_of_ble_eq_true rfl) dX6_tag_24 ⟨by decide, by decide⟩ (fun r_6 _ h_5 => ?_)
  subst h_5
  refine v_ifz_eq C 32 dX6_tag_27 (by decide) (fun h => nomatch h) (fun _ => ?_)
  refine v_iconst C (z := 0) dX6_tag_30 ?_
  exact (v_iret C hr hl () (by decide) (by decide) rfl trivial dX6_tag_31)
theorem inX6_tagged_6 : ∀ w ∈ u_ws RX6 TX6 23, w ∈ wsX6_tagged := by decide +kernel
theorem lkX6_tagged_43 : Cond.fieldLink RX6 43 "MergeAtelierModel" "tags" "[I" ∈ wsX6_tagged := by decide +kernel
set_option maxHeartbeats 4000000 in
set_option maxRecDepth 100000 in
theorem kX6_tagged_ok (l : Launch) (g : vG) {mm b1 b2 b3 b4 b5 b6 b7 b8 b9 b10 b11 b12 b13 b14 b15 b16 b17 : Nat} {kinds tgs first second vals qs : Nat → Int} {hds An qi qo Tm Nw Kw ris : Nat → Nat} {ni bc cm cn qc cd : Nat} {x0 : Nat} (hI : MI vals ris cn kinds tgs first second qs hds An qi qo Tm ni bc cm qc) (hx0 : x0 < 10) (hq : ¬ tgs (x0) = -1) : mI l g yX6_tagged wsX6_tagged ({ frames := 1, cells := 0, slots := 0, locals := 22 }) [.ref (mm), .int (iI ((x0 : Nat) : Int))] (wMM g mm b1 b2 b3 b4 b5 b6 b7 b8 b9 b10 b11 b12 b13 b14 b15 b16 b17 kinds ni cm first second An An Tm Tm bc hds tgs qc qi qo qs cn vals Nw Nw Kw Kw cd ++ ([])) (fun _ : Unit => wMM g mm b1 b2 b3 b4 b5 b6 b7 b8 b9 b10 b11 b12 b13 b14 b15 b16 b17 kinds ni cm first second An An Tm Tm bc hds tgs qc qi qo qs cn vals Nw Nw Kw Kw 0 ++ ([])) (fun v _ => v = iI (tgs (x0))) 0 0 := by
  refine mI_of (cc := cX6_tagged) (maxL := 2) (ret := (some .int)) (own := RX6) (by decide) rfl rfl (Nat.le_of_ble_eq_true rfl) ?_
  intro p e s m args below meth c A C hr hl hin
  obtain ⟨hni, hbc1, hbc, hcm1, hcm, hcn1, hnm, hqc, hhd, htg, hf, hs, hfc, hsc, hAn, hTm, hao, hpal, hqb, hqi, htk, hkd⟩ := id hI
  refine v_aload_n C dX6_tagged_0 rfl 0 rfl ?_
  refine v_iload_n C dX6_tagged_1 rfl 1 rfl ?_
  refine v_iconst C (z := 0) dX6_tagged_2 ?_
  refine v_bipush C (z := 9) dX6_tagged_3 rfl ?_
  refine v_invSI C (As := [.int (iI ((x0 : Nat) : Int)), .int (iI (0)), .int (iI (9))]) (kX6_in_t l g  (x := ((x0 : Nat) : Int)) (y := 0) (z := 9) ⟨by omega, by omega⟩ (b31_lit _ rfl) (b31_lit _ rfl) (by omega) (by omega)) (cwS 3 C.2.2.2.2.1 gX6_tagged_X6_in rfl rfl rfl (by decide +kernel) ⟨Nat.le_of_ble_eq_true rfl, Nat.le_of_ble_eq_true rfl⟩) [wMM g mm b1 b2 b3 b4 b5 b6 b7 b8 b9 b10 b11 b12 b13 b14 b15 b16 b17 kinds ni cm first second An An Tm Tm bc hds tgs qc qi qo qs cn vals Nw Nw Kw Kw cd] [] [0] [.ref (mm)] (fun _ => [wMM g mm b1 b2 b3 b4 b5 b6 b7 b8 b9 b10 b11 b12 b13 b14 b15 b16 b17 kinds ni cm first second An An Tm Tm bc hds tgs qc qi qo qs cn vals Nw Nw Kw Kw cd]) (fun _ => wMM g mm b1 b2 b3 b4 b5 b6 b7 b8 b9 b10 b11 b12 b13 b14 b15 b16 b17 kinds ni cm first second An An Tm Tm bc hds tgs qc qi qo qs cn vals Nw Nw Kw Kw cd ++ ([])) rfl rfl rfl (fun _ => rfl) (fun _ => rfl) (fun _ => rfl) (fun _ => rfl) rfl rfl (Nat.le_of_ble_eq_true rfl) dX6_tagged_5 ⟨by decide, by decide⟩ (fun r_2 _ h_1 => ?_)
  subst h_1
  refine v_ifz_ne C 15 dX6_tagged_8 (by decide) (fun _ => ?_) (fun h => nomatch h) 
  have ht9 := htg x0
  refine v_aload_n C dX6_tagged_15 rfl 0 rfl ?_
  refine v_get C 0 (kf := 11) rfl rfl (by decide) inX6_tagged_6 lkX6_tagged_43 rfl rfl dX6_tagged_16 ?_
  refine v_iload_n C dX6_tagged_19 rfl 1 rfl ?_
  refine v_iald C 9 (x0) rfl rfl (by omega) (by decide) dX6_tagged_20 ?_
  refine v_if_ge C 28 dX6_tagged_21 (by decide) ⟨by omega, by omega⟩ (fun c_3 => ?_) (fun c_3 => ?_)
  ·
    refine v_iconst C (z := 0) dX6_tagged_28 ?_
    refine v_invVI C (As := [.int (iI (0))]) (q0 := 0) (ci := 6) (kX6_fails_z l g (mm := mm) (b1 := b1) (b2 := b2) (b3 := b3) (b4 := b4) (b5 := b5) (b6 := b6) (b7 := b7) (b8 := b8) (b9 := b9) (b10 := b10) (b11 := b11) (b12 := b12) (b13 := b13) (b14 := b14) (b15 := b15) (b16 := b16) (b17 := b17) (kinds := kinds) (tgs := tgs) (first := first) (second := second) (vals := vals) (qs := qs) (hds := hds) (An := An) (qi := qi) (qo := qo) (Tm := Tm) (Nw := Nw) (Kw := Kw) (ni := ni) (bc := bc) (cm := cm) (cn := cn) (qc := qc) (cd := cd) (ris := ris)  ) (cwV 1 C.2.2.2.2.1 gX6_tagged_X6_fails rfl rfl rfl (by decide +kernel) ⟨Nat.le_of_ble_eq_true rfl, Nat.le_of_ble_eq_true rfl⟩) [wMM g mm b1 b2 b3 b4 b5 b6 b7 b8 b9 b10 b11 b12 b13 b14 b15 b16 b17 kinds ni cm first second An An Tm Tm bc hds tgs qc qi qo qs cn vals Nw Nw Kw Kw cd] [0] [] [] (fun _ => [wMM g mm b1 b2 b3 b4 b5 b6 b7 b8 b9 b10 b11 b12 b13 b14 b15 b16 b17 kinds ni cm first second An An Tm Tm bc hds tgs qc qi qo qs cn vals Nw Nw Kw Kw 0]) (fun _ => wMM g mm b1 b2 b3 b4 b5 b6 b7 b8 b9 b10 b11 b12 b13 b14 b15 b16 b17 kinds ni cm first second An An Tm Tm bc hds tgs qc qi qo qs cn vals Nw Nw Kw Kw 0 ++ ([])) rfl rfl rfl (fun _ => rfl) (fun _ => rfl) (fun _ => rfl) (fun _ => rfl) rfl rfl rfl rfl rfl (Nat.le_of_ble_eq_true rfl) dX6_tagged_29 ⟨by decide, by decide⟩ (fun r_5 _ h_4 => ?_)
    subst h_4
    refine v_ifz_eq C 39 dX6_tagged_32 (by decide) (fun _ => ?_) (fun h => nomatch h) 
    refine v_aload_n C dX6_tagged_39 rfl 0 rfl ?_
    refine v_get C 0 (kf := 11) rfl rfl (by decide) inX6_tagged_6 lkX6_tagged_43 rfl rfl dX6_tagged_40 ?_
    refine v_iload_n C dX6_tagged_43 rfl 1 rfl ?_
    refine v_iald C 9 (x0) rfl rfl (by omega) (by decide) dX6_tagged_44 ?_
    exact (v_iret C hr hl () (by decide) (by decide) rfl rfl dX6_tagged_45)
  ·
    exfalso; omega
set_option maxHeartbeats 4000000 in
set_option maxRecDepth 100000 in
theorem kX6_tagged_a (l : Launch) (g : vG) {mm b1 b2 b3 b4 b5 b6 b7 b8 b9 b10 b11 b12 b13 b14 b15 b16 b17 : Nat} {kinds tgs first second vals qs : Nat → Int} {hds An qi qo Tm Nw Kw ris : Nat → Nat} {ni bc cm cn qc cd : Nat} {x : Int} (hI : MI vals ris cn kinds tgs first second qs hds An qi qo Tm ni bc cm qc) (hx : b31 x) (hqx : ¬ (0 ≤ x ∧ x < ((10 : Nat) : Int)))  : mI l g yX6_tagged wsX6_tagged ({ frames := 1, cells := 0, slots := 0, locals := 22 }) [.ref (mm), .int (iI (x))] (wMM g mm b1 b2 b3 b4 b5 b6 b7 b8 b9 b10 b11 b12 b13 b14 b15 b16 b17 kinds ni cm first second An An Tm Tm bc hds tgs qc qi qo qs cn vals Nw Nw Kw Kw cd ++ ([])) (fun _ : Unit => wMM g mm b1 b2 b3 b4 b5 b6 b7 b8 b9 b10 b11 b12 b13 b14 b15 b16 b17 kinds ni cm first second An An Tm Tm bc hds tgs qc qi qo qs cn vals Nw Nw Kw Kw 1 ++ ([])) (fun _ _ => True) 0 0 := by
  refine mI_of (cc := cX6_tagged) (maxL := 2) (ret := (some .int)) (own := RX6) (by decide) rfl rfl (Nat.le_of_ble_eq_true rfl) ?_
  intro p e s m args below meth c A C hr hl hin
  obtain ⟨hni, hbc1, hbc, hcm1, hcm, hcn1, hnm, hqc, hhd, htg, hf, hs, hfc, hsc, hAn, hTm, hao, hpal, hqb, hqi, htk, hkd⟩ := id hI
  have hx1 := hx.1
  have hx2 := hx.2
  refine v_aload_n C dX6_tagged_0 rfl 0 rfl ?_
  refine v_iload_n C dX6_tagged_1 rfl 1 rfl ?_
  refine v_iconst C (z := 0) dX6_tagged_2 ?_
  refine v_bipush C (z := 9) dX6_tagged_3 rfl ?_
  refine v_invSI C (As := [.int (iI (x)), .int (iI (0)), .int (iI (9))]) (kX6_in_f l g  (x := x) (y := 0) (z := 9) ⟨by omega, by omega⟩ (b31_lit _ rfl) (b31_lit _ rfl) (by omega)) (cwS 3 C.2.2.2.2.1 gX6_tagged_X6_in rfl rfl rfl (by decide +kernel) ⟨Nat.le_of_ble_eq_true rfl, Nat.le_of_ble_eq_true rfl⟩) [wMM g mm b1 b2 b3 b4 b5 b6 b7 b8 b9 b10 b11 b12 b13 b14 b15 b16 b17 kinds ni cm first second An An Tm Tm bc hds tgs qc qi qo qs cn vals Nw Nw Kw Kw cd] [] [0] [.ref (mm)] (fun _ => [wMM g mm b1 b2 b3 b4 b5 b6 b7 b8 b9 b10 b11 b12 b13 b14 b15 b16 b17 kinds ni cm first second An An Tm Tm bc hds tgs qc qi qo qs cn vals Nw Nw Kw Kw cd]) (fun _ => wMM g mm b1 b2 b3 b4 b5 b6 b7 b8 b9 b10 b11 b12 b13 b14 b15 b16 b17 kinds ni cm first second An An Tm Tm bc hds tgs qc qi qo qs cn vals Nw Nw Kw Kw cd ++ ([])) rfl rfl rfl (fun _ => rfl) (fun _ => rfl) (fun _ => rfl) (fun _ => rfl) rfl rfl (Nat.le_of_ble_eq_true rfl) dX6_tagged_5 ⟨by decide, by decide⟩ (fun r_2 _ h_1 => ?_)
  subst h_1
  refine v_ifz_ne C 15 dX6_tagged_8 (by decide) (fun h => nomatch h) (fun _ => ?_)
  refine v_iconst C (z := 1) dX6_tagged_11 ?_
  refine v_goto C 29 dX6_tagged_12 (by decide) ?_
  refine v_invVI C (As := [.int (iI (1))]) (q0 := 0) (ci := 6) (kX6_fails_p l g (mm := mm) (b1 := b1) (b2 := b2) (b3 := b3) (b4 := b4) (b5 := b5) (b6 := b6) (b7 := b7) (b8 := b8) (b9 := b9) (b10 := b10) (b11 := b11) (b12 := b12) (b13 := b13) (b14 := b14) (b15 := b15) (b16 := b16) (b17 := b17) (kinds := kinds) (tgs := tgs) (first := first) (second := second) (vals := vals) (qs := qs) (hds := hds) (An := An) (qi := qi) (qo := qo) (Tm := Tm) (Nw := Nw) (Kw := Kw) (ni := ni) (bc := bc) (cm := cm) (cn := cn) (qc := qc) (cd := cd) (ris := ris) (q := 1) (by decide)) (cwV 1 C.2.2.2.2.1 gX6_tagged_X6_fails rfl rfl rfl (by decide +kernel) ⟨Nat.le_of_ble_eq_true rfl, Nat.le_of_ble_eq_true rfl⟩) [wMM g mm b1 b2 b3 b4 b5 b6 b7 b8 b9 b10 b11 b12 b13 b14 b15 b16 b17 kinds ni cm first second An An Tm Tm bc hds tgs qc qi qo qs cn vals Nw Nw Kw Kw cd] [0] [] [] (fun _ => [wMM g mm b1 b2 b3 b4 b5 b6 b7 b8 b9 b10 b11 b12 b13 b14 b15 b16 b17 kinds ni cm first second An An Tm Tm bc hds tgs qc qi qo qs cn vals Nw Nw Kw Kw 1]) (fun _ => wMM g mm b1 b2 b3 b4 b5 b6 b7 b8 b9 b10 b11 b12 b13 b14 b15 b16 b17 kinds ni cm first second An An Tm Tm bc hds tgs qc qi qo qs cn vals Nw Nw Kw Kw 1 ++ ([])) rfl rfl rfl (fun _ => rfl) (fun _ => rfl) (fun _ => rfl) (fun _ => rfl) rfl rfl rfl rfl rfl (Nat.le_of_ble_eq_true rfl) dX6_tagged_29 ⟨by decide, by decide⟩ (fun r_4 _ h_3 => ?_)
  subst h_3
  refine v_ifz_eq C 39 dX6_tagged_32 (by decide) (fun h => nomatch h) (fun _ => ?_)
  refine v_iconst C (z := 0) dX6_tagged_35 ?_
  refine v_goto C 45 dX6_tagged_36 (by decide) ?_
  exact (v_iret C hr hl () (by decide) (by decide) rfl trivial dX6_tagged_45)
set_option maxHeartbeats 4000000 in
set_option maxRecDepth 100000 in
theorem kX6_tagged_2 (l : Launch) (g : vG) {mm b1 b2 b3 b4 b5 b6 b7 b8 b9 b10 b11 b12 b13 b14 b15 b16 b17 : Nat} {kinds tgs first second vals qs : Nat → Int} {hds An qi qo Tm Nw Kw ris : Nat → Nat} {ni bc cm cn qc cd : Nat} {x0 : Nat} (hI : MI vals ris cn kinds tgs first second qs hds An qi qo Tm ni bc cm qc) (hx0 : x0 < 10) (hq : tgs (x0) = -1) : mI l g yX6_tagged wsX6_tagged ({ frames := 1, cells := 0, slots := 0, locals := 22 }) [.ref (mm), .int (iI ((x0 : Nat) : Int))] (wMM g mm b1 b2 b3 b4 b5 b6 b7 b8 b9 b10 b11 b12 b13 b14 b15 b16 b17 kinds ni cm first second An An Tm Tm bc hds tgs qc qi qo qs cn vals Nw Nw Kw Kw cd ++ ([])) (fun _ : Unit => wMM g mm b1 b2 b3 b4 b5 b6 b7 b8 b9 b10 b11 b12 b13 b14 b15 b16 b17 kinds ni cm first second An An Tm Tm bc hds tgs qc qi qo qs cn vals Nw Nw Kw Kw 2 ++ ([])) (fun _ _ => True) 0 0 := by
  refine mI_of (cc := cX6_tagged) (maxL := 2) (ret := (some .int)) (own := RX6) (by decide) rfl rfl (Nat.le_of_ble_eq_true rfl) ?_
  intro p e s m args below meth c A C hr hl hin
  obtain ⟨hni, hbc1, hbc, hcm1, hcm, hcn1, hnm, hqc, hhd, htg, hf, hs, hfc, hsc, hAn, hTm, hao, hpal, hqb, hqi, htk, hkd⟩ := id hI
  refine v_aload_n C dX6_tagged_0 rfl 0 rfl ?_
  refine v_iload_n C dX6_tagged_1 rfl 1 rfl ?_
  refine v_iconst C (z := 0) dX6_tagged_2 ?_
  refine v_bipush C (z := 9) dX6_tagged_3 rfl ?_
  refine v_invSI C (As := [.int (iI ((x0 : Nat) : Int)), .int (iI (0)), .int (iI (9))]) (kX6_in_t l g  (x := ((x0 : Nat) : Int)) (y := 0) (z := 9) ⟨by omega, by omega⟩ (b31_lit _ rfl) (b31_lit _ rfl) (by omega) (by omega)) (cwS 3 C.2.2.2.2.1 gX6_tagged_X6_in rfl rfl rfl (by decide +kernel) ⟨Nat.le_of_ble_eq_true rfl, Nat.le_of_ble_eq_true rfl⟩) [wMM g mm b1 b2 b3 b4 b5 b6 b7 b8 b9 b10 b11 b12 b13 b14 b15 b16 b17 kinds ni cm first second An An Tm Tm bc hds tgs qc qi qo qs cn vals Nw Nw Kw Kw cd] [] [0] [.ref (mm)] (fun _ => [wMM g mm b1 b2 b3 b4 b5 b6 b7 b8 b9 b10 b11 b12 b13 b14 b15 b16 b17 kinds ni cm first second An An Tm Tm bc hds tgs qc qi qo qs cn vals Nw Nw Kw Kw cd]) (fun _ => wMM g mm b1 b2 b3 b4 b5 b6 b7 b8 b9 b10 b11 b12 b13 b14 b15 b16 b17 kinds ni cm first second An An Tm Tm bc hds tgs qc qi qo qs cn vals Nw Nw Kw Kw cd ++ ([])) rfl rfl rfl (fun _ => rfl) (fun _ => rfl) (fun _ => rfl) (fun _ => rfl) rfl rfl (Nat.le_of_ble_eq_true rfl) dX6_tagged_5 ⟨by decide, by decide⟩ (fun r_2 _ h_1 => ?_)
  subst h_1
  refine v_ifz_ne C 15 dX6_tagged_8 (by decide) (fun _ => ?_) (fun h => nomatch h) 
  have ht9 := htg x0
  refine v_aload_n C dX6_tagged_15 rfl 0 rfl ?_
  refine v_get C 0 (kf := 11) rfl rfl (by decide) inX6_tagged_6 lkX6_tagged_43 rfl rfl dX6_tagged_16 ?_
  refine v_iload_n C dX6_tagged_19 rfl 1 rfl ?_
  refine v_iald C 9 (x0) rfl rfl (by omega) (by decide) dX6_tagged_20 ?_
  refine v_if_ge C 28 dX6_tagged_21 (by decide) ⟨by omega, by omega⟩ (fun c_3 => ?_) (fun c_3 => ?_)
  ·
    exfalso; omega
  ·
    refine v_iconst C (z := 2) dX6_tagged_24 ?_
    refine v_goto C 29 dX6_tagged_25 (by decide) ?_
    refine v_invVI C (As := [.int (iI (2))]) (q0 := 0) (ci := 6) (kX6_fails_p l g (mm := mm) (b1 := b1) (b2 := b2) (b3 := b3) (b4 := b4) (b5 := b5) (b6 := b6) (b7 := b7) (b8 := b8) (b9 := b9) (b10 := b10) (b11 := b11) (b12 := b12) (b13 := b13) (b14 := b14) (b15 := b15) (b16 := b16) (b17 := b17) (kinds := kinds) (tgs := tgs) (first := first) (second := second) (vals := vals) (qs := qs) (hds := hds) (An := An) (qi := qi) (qo := qo) (Tm := Tm) (Nw := Nw) (Kw := Kw) (ni := ni) (bc := bc) (cm := cm) (cn := cn) (qc := qc) (cd := cd) (ris := ris) (q := 2) (by decide)) (cwV 1 C.2.2.2.2.1 gX6_tagged_X6_fails rfl rfl rfl (by decide +kernel) ⟨Nat.le_of_ble_eq_true rfl, Nat.le_of_ble_eq_true rfl⟩) [wMM g mm b1 b2 b3 b4 b5 b6 b7 b8 b9 b10 b11 b12 b13 b14 b15 b16 b17 kinds ni cm first second An An Tm Tm bc hds tgs qc qi qo qs cn vals Nw Nw Kw Kw cd] [0] [] [] (fun _ => [wMM g mm b1 b2 b3 b4 b5 b6 b7 b8 b9 b10 b11 b12 b13 b14 b15 b16 b17 kinds ni cm first second An An Tm Tm bc hds tgs qc qi qo qs cn vals Nw Nw Kw Kw 2]) (fun _ => wMM g mm b1 b2 b3 b4 b5 b6 b7 b8 b9 b10 b11 b12 b13 b14 b15 b16 b17 kinds ni cm first second An An Tm Tm bc hds tgs qc qi qo qs cn vals Nw Nw Kw Kw 2 ++ ([])) rfl rfl rfl (fun _ => rfl) (fun _ => rfl) (fun _ => rfl) (fun _ => rfl) rfl rfl rfl rfl rfl (Nat.le_of_ble_eq_true rfl) dX6_tagged_29 ⟨by decide, by decide⟩ (fun r_5 _ h_4 => ?_)
    subst h_4
    refine v_ifz_eq C 39 dX6_tagged_32 (by decide) (fun h => nomatch h) (fun _ => ?_)
    refine v_iconst C (z := 0) dX6_tagged_35 ?_
    refine v_goto C 45 dX6_tagged_36 (by decide) ?_
    exact (v_iret C hr hl () (by decide) (by decide) rfl trivial dX6_tagged_45)
theorem inX6_commits_6 : ∀ w ∈ u_ws RX6 TX6 23, w ∈ wsX6_commits := by decide +kernel
theorem lkX6_commits_13 : Cond.fieldLink RX6 13 "MergeAtelierModel" "commits" "I" ∈ wsX6_commits := by decide +kernel
set_option maxHeartbeats 4000000 in
set_option maxRecDepth 100000 in
theorem kX6_commits_ok (l : Launch) (g : vG) {mm b1 b2 b3 b4 b5 b6 b7 b8 b9 b10 b11 b12 b13 b14 b15 b16 b17 : Nat} {kinds tgs first second vals qs : Nat → Int} {hds An qi qo Tm Nw Kw ris : Nat → Nat} {ni bc cm cn qc cd : Nat}  (hI : MI vals ris cn kinds tgs first second qs hds An qi qo Tm ni bc cm qc)   : mI l g yX6_commits wsX6_commits ({ frames := 1, cells := 0, slots := 0, locals := 21 }) [.ref (mm)] (wMM g mm b1 b2 b3 b4 b5 b6 b7 b8 b9 b10 b11 b12 b13 b14 b15 b16 b17 kinds ni cm first second An An Tm Tm bc hds tgs qc qi qo qs cn vals Nw Nw Kw Kw cd ++ ([])) (fun _ : Unit => wMM g mm b1 b2 b3 b4 b5 b6 b7 b8 b9 b10 b11 b12 b13 b14 b15 b16 b17 kinds ni cm first second An An Tm Tm bc hds tgs qc qi qo qs cn vals Nw Nw Kw Kw 0 ++ ([])) (fun v _ => v = iI ((cm : Nat) : Int)) 0 0 := by
  refine mI_of (cc := cX6_commits) (maxL := 1) (ret := (some .int)) (own := RX6) (by decide) rfl rfl (Nat.le_of_ble_eq_true rfl) ?_
  intro p e s m args below meth c A C hr hl hin
  obtain ⟨hni, hbc1, hbc, hcm1, hcm, hcn1, hnm, hqc, hhd, htg, hf, hs, hfc, hsc, hAn, hTm, hao, hpal, hqb, hqi, htk, hkd⟩ := id hI
  refine v_aload_n C dX6_commits_0 rfl 0 rfl ?_
  refine v_aload_n C dX6_commits_1 rfl 0 rfl ?_
  refine v_get C 0 (kf := 2) rfl rfl (by decide) inX6_commits_6 lkX6_commits_13 rfl rfl dX6_commits_2 ?_
  refine v_invVI C (As := [.int (iI ((cm : Nat) : Int))]) (q0 := 0) (ci := 6) (kX6_tells l g (mm := mm) (b1 := b1) (b2 := b2) (b3 := b3) (b4 := b4) (b5 := b5) (b6 := b6) (b7 := b7) (b8 := b8) (b9 := b9) (b10 := b10) (b11 := b11) (b12 := b12) (b13 := b13) (b14 := b14) (b15 := b15) (b16 := b16) (b17 := b17) (kinds := kinds) (tgs := tgs) (first := first) (second := second) (vals := vals) (qs := qs) (hds := hds) (An := An) (qi := qi) (qo := qo) (Tm := Tm) (Nw := Nw) (Kw := Kw) (ni := ni) (bc := bc) (cm := cm) (cn := cn) (qc := qc) (cd := cd) (ris := ris) (x := ((cm : Nat) : Int)) ) (cwV 1 C.2.2.2.2.1 gX6_commits_X6_tells rfl rfl rfl (by decide +kernel) ⟨Nat.le_of_ble_eq_true rfl, Nat.le_of_ble_eq_true rfl⟩) [wMM g mm b1 b2 b3 b4 b5 b6 b7 b8 b9 b10 b11 b12 b13 b14 b15 b16 b17 kinds ni cm first second An An Tm Tm bc hds tgs qc qi qo qs cn vals Nw Nw Kw Kw cd] [0] [] [] (fun _ => [wMM g mm b1 b2 b3 b4 b5 b6 b7 b8 b9 b10 b11 b12 b13 b14 b15 b16 b17 kinds ni cm first second An An Tm Tm bc hds tgs qc qi qo qs cn vals Nw Nw Kw Kw 0]) (fun _ => wMM g mm b1 b2 b3 b4 b5 b6 b7 b8 b9 b10 b11 b12 b13 b14 b15 b16 b17 kinds ni cm first second An An Tm Tm bc hds tgs qc qi qo qs cn vals Nw Nw Kw Kw 0 ++ ([])) rfl rfl rfl (fun _ => rfl) (fun _ => rfl) (fun _ => rfl) (fun _ => rfl) rfl rfl rfl rfl rfl (Nat.le_of_ble_eq_true rfl) dX6_commits_5 ⟨by decide, by decide⟩ (fun r_2 _ h_1 => ?_)
  subst h_1
  exact (v_iret C hr hl () (by decide) (by decide) rfl rfl dX6_commits_8)
set_option maxHeartbeats 4000000 in
set_option maxRecDepth 100000 in
theorem kX6_parents_ok (l : Launch) (g : vG) {mm b1 b2 b3 b4 b5 b6 b7 b8 b9 b10 b11 b12 b13 b14 b15 b16 b17 : Nat} {kinds tgs first second vals qs : Nat → Int} {hds An qi qo Tm Nw Kw ris : Nat → Nat} {ni bc cm cn qc cd : Nat} {x0 : Nat} (hI : MI vals ris cn kinds tgs first second qs hds An qi qo Tm ni bc cm qc) (hx0 : x0 < cm)  : mI l g yX6_parents wsX6_parents ({ frames := 3, cells := 0, slots := 0, locals := 64 }) [.ref (mm), .int (iI ((x0 : Nat) : Int))] (wMM g mm b1 b2 b3 b4 b5 b6 b7 b8 b9 b10 b11 b12 b13 b14 b15 b16 b17 kinds ni cm first second An An Tm Tm bc hds tgs qc qi qo qs cn vals Nw Nw Kw Kw cd ++ ([])) (fun _ : Unit => wMM g mm b1 b2 b3 b4 b5 b6 b7 b8 b9 b10 b11 b12 b13 b14 b15 b16 b17 kinds ni cm first second An An Tm Tm bc hds tgs qc qi qo qs cn vals Nw Nw Kw Kw 0 ++ ([])) (fun v _ => v = iI (((pcn (first (x0)) (second (x0)) : Nat) : Int))) 0 0 := by
  refine mI_of (cc := cX6_parents) (maxL := 2) (ret := (some .int)) (own := RX6) (by decide) rfl rfl (Nat.le_of_ble_eq_true rfl) ?_
  intro p e s m args below meth c A C hr hl hin
  obtain ⟨hni, hbc1, hbc, hcm1, hcm, hcn1, hnm, hqc, hhd, htg, hf, hs, hfc, hsc, hAn, hTm, hao, hpal, hqb, hqi, htk, hkd⟩ := id hI
  refine v_aload_n C dX6_parents_0 rfl 0 rfl ?_
  refine v_iload_n C dX6_parents_1 rfl 1 rfl ?_
  refine v_invVI C (As := [.int (iI ((x0 : Nat) : Int))]) (q0 := 0) (ci := 6) (kX6_isNone_in l g (mm := mm) (b1 := b1) (b2 := b2) (b3 := b3) (b4 := b4) (b5 := b5) (b6 := b6) (b7 := b7) (b8 := b8) (b9 := b9) (b10 := b10) (b11 := b11) (b12 := b12) (b13 := b13) (b14 := b14) (b15 := b15) (b16 := b16) (b17 := b17) (kinds := kinds) (tgs := tgs) (first := first) (second := second) (vals := vals) (qs := qs) (hds := hds) (An := An) (qi := qi) (qo := qo) (Tm := Tm) (Nw := Nw) (Kw := Kw) (ni := ni) (bc := bc) (cm := cm) (cn := cn) (qc := qc) (cd := cd) (ris := ris) (i0 := x0) (by omega) (by omega)) (cwV 1 C.2.2.2.2.1 gX6_parents_X6_isNone rfl rfl rfl (by decide +kernel) ⟨Nat.le_of_ble_eq_true rfl, Nat.le_of_ble_eq_true rfl⟩) [wMM g mm b1 b2 b3 b4 b5 b6 b7 b8 b9 b10 b11 b12 b13 b14 b15 b16 b17 kinds ni cm first second An An Tm Tm bc hds tgs qc qi qo qs cn vals Nw Nw Kw Kw cd] [0] [] [] (fun _ => [wMM g mm b1 b2 b3 b4 b5 b6 b7 b8 b9 b10 b11 b12 b13 b14 b15 b16 b17 kinds ni cm first second An An Tm Tm bc hds tgs qc qi qo qs cn vals Nw Nw Kw Kw 0]) (fun _ => wMM g mm b1 b2 b3 b4 b5 b6 b7 b8 b9 b10 b11 b12 b13 b14 b15 b16 b17 kinds ni cm first second An An Tm Tm bc hds tgs qc qi qo qs cn vals Nw Nw Kw Kw 0 ++ ([])) rfl rfl rfl (fun _ => rfl) (fun _ => rfl) (fun _ => rfl) (fun _ => rfl) rfl rfl rfl rfl rfl (Nat.le_of_ble_eq_true rfl) dX6_parents_2 ⟨by decide, by decide⟩ (fun r_2 _ h_1 => ?_)
  subst h_1
  refine v_ifz_eq C 12 dX6_parents_5 (by decide) (fun _ => ?_) (fun h => nomatch h) 
  refine v_aload_n C dX6_parents_12 rfl 0 rfl ?_
  refine v_iload_n C dX6_parents_13 rfl 1 rfl ?_
  refine v_invVI C (As := [.int (iI ((x0 : Nat) : Int))]) (q0 := 0) (ci := 6) (kX6_parentsOf l g (mm := mm) (b1 := b1) (b2 := b2) (b3 := b3) (b4 := b4) (b5 := b5) (b6 := b6) (b7 := b7) (b8 := b8) (b9 := b9) (b10 := b10) (b11 := b11) (b12 := b12) (b13 := b13) (b14 := b14) (b15 := b15) (b16 := b16) (b17 := b17) (kinds := kinds) (tgs := tgs) (first := first) (second := second) (vals := vals) (qs := qs) (hds := hds) (An := An) (qi := qi) (qo := qo) (Tm := Tm) (Nw := Nw) (Kw := Kw) (ni := ni) (bc := bc) (cm := cm) (cn := cn) (qc := qc) (cd := 0) (ris := ris) (c0 := x0) (by omega) hf hs) (cwV 1 C.2.2.2.2.1 gX6_parents_X6_parentsOf rfl rfl rfl (by decide +kernel) ⟨Nat.le_of_ble_eq_true rfl, Nat.le_of_ble_eq_true rfl⟩) [wMM g mm b1 b2 b3 b4 b5 b6 b7 b8 b9 b10 b11 b12 b13 b14 b15 b16 b17 kinds ni cm first second An An Tm Tm bc hds tgs qc qi qo qs cn vals Nw Nw Kw Kw 0] [0] [] [] (fun _ => [wMM g mm b1 b2 b3 b4 b5 b6 b7 b8 b9 b10 b11 b12 b13 b14 b15 b16 b17 kinds ni cm first second An An Tm Tm bc hds tgs qc qi qo qs cn vals Nw Nw Kw Kw 0]) (fun _ => wMM g mm b1 b2 b3 b4 b5 b6 b7 b8 b9 b10 b11 b12 b13 b14 b15 b16 b17 kinds ni cm first second An An Tm Tm bc hds tgs qc qi qo qs cn vals Nw Nw Kw Kw 0 ++ ([])) rfl rfl rfl (fun _ => rfl) (fun _ => rfl) (fun _ => rfl) (fun _ => rfl) rfl rfl rfl rfl rfl (Nat.le_of_ble_eq_true rfl) dX6_parents_14 ⟨by decide, by decide⟩ (fun r_4 _ h_3 => ?_)
  subst h_3
  exact (v_iret C hr hl () (by decide) (by decide) rfl rfl dX6_parents_17)
set_option maxHeartbeats 4000000 in
set_option maxRecDepth 100000 in
theorem kX6_parents_a (l : Launch) (g : vG) {mm b1 b2 b3 b4 b5 b6 b7 b8 b9 b10 b11 b12 b13 b14 b15 b16 b17 : Nat} {kinds tgs first second vals qs : Nat → Int} {hds An qi qo Tm Nw Kw ris : Nat → Nat} {ni bc cm cn qc cd : Nat} {x : Int} (hI : MI vals ris cn kinds tgs first second qs hds An qi qo Tm ni bc cm qc) (hx : b31 x) (hqx : ¬ (0 ≤ x ∧ x < ((cm : Nat) : Int)))  : mI l g yX6_parents wsX6_parents ({ frames := 3, cells := 0, slots := 0, locals := 64 }) [.ref (mm), .int (iI (x))] (wMM g mm b1 b2 b3 b4 b5 b6 b7 b8 b9 b10 b11 b12 b13 b14 b15 b16 b17 kinds ni cm first second An An Tm Tm bc hds tgs qc qi qo qs cn vals Nw Nw Kw Kw cd ++ ([])) (fun _ : Unit => wMM g mm b1 b2 b3 b4 b5 b6 b7 b8 b9 b10 b11 b12 b13 b14 b15 b16 b17 kinds ni cm first second An An Tm Tm bc hds tgs qc qi qo qs cn vals Nw Nw Kw Kw 1 ++ ([])) (fun _ _ => True) 0 0 := by
  refine mI_of (cc := cX6_parents) (maxL := 2) (ret := (some .int)) (own := RX6) (by decide) rfl rfl (Nat.le_of_ble_eq_true rfl) ?_
  intro p e s m args below meth c A C hr hl hin
  obtain ⟨hni, hbc1, hbc, hcm1, hcm, hcn1, hnm, hqc, hhd, htg, hf, hs, hfc, hsc, hAn, hTm, hao, hpal, hqb, hqi, htk, hkd⟩ := id hI
  have hx1 := hx.1
  have hx2 := hx.2
  refine v_aload_n C dX6_parents_0 rfl 0 rfl ?_
  refine v_iload_n C dX6_parents_1 rfl 1 rfl ?_
  refine v_invVI C (As := [.int (iI (x))]) (q0 := 0) (ci := 6) (kX6_isNone_out l g (mm := mm) (b1 := b1) (b2 := b2) (b3 := b3) (b4 := b4) (b5 := b5) (b6 := b6) (b7 := b7) (b8 := b8) (b9 := b9) (b10 := b10) (b11 := b11) (b12 := b12) (b13 := b13) (b14 := b14) (b15 := b15) (b16 := b16) (b17 := b17) (kinds := kinds) (tgs := tgs) (first := first) (second := second) (vals := vals) (qs := qs) (hds := hds) (An := An) (qi := qi) (qo := qo) (Tm := Tm) (Nw := Nw) (Kw := Kw) (ni := ni) (bc := bc) (cm := cm) (cn := cn) (qc := qc) (cd := cd) (ris := ris) (x := x) ⟨by omega, by omega⟩ (by omega) (by omega)) (cwV 1 C.2.2.2.2.1 gX6_parents_X6_isNone rfl rfl rfl (by decide +kernel) ⟨Nat.le_of_ble_eq_true rfl, Nat.le_of_ble_eq_true rfl⟩) [wMM g mm b1 b2 b3 b4 b5 b6 b7 b8 b9 b10 b11 b12 b13 b14 b15 b16 b17 kinds ni cm first second An An Tm Tm bc hds tgs qc qi qo qs cn vals Nw Nw Kw Kw cd] [0] [] [] (fun _ => [wMM g mm b1 b2 b3 b4 b5 b6 b7 b8 b9 b10 b11 b12 b13 b14 b15 b16 b17 kinds ni cm first second An An Tm Tm bc hds tgs qc qi qo qs cn vals Nw Nw Kw Kw 1]) (fun _ => wMM g mm b1 b2 b3 b4 b5 b6 b7 b8 b9 b10 b11 b12 b13 b14 b15 b16 b17 kinds ni cm first second An An Tm Tm bc hds tgs qc qi qo qs cn vals Nw Nw Kw Kw 1 ++ ([])) rfl rfl rfl (fun _ => rfl) (fun _ => rfl) (fun _ => rfl) (fun _ => rfl) rfl rfl rfl rfl rfl (Nat.le_of_ble_eq_true rfl) dX6_parents_2 ⟨by decide, by decide⟩ (fun r_2 _ h_1 => ?_)
  subst h_1
  refine v_ifz_eq C 12 dX6_parents_5 (by decide) (fun h => nomatch h) (fun _ => ?_)
  refine v_iconst C (z := 0) dX6_parents_8 ?_
  refine v_goto C 17 dX6_parents_9 (by decide) ?_
  exact (v_iret C hr hl () (by decide) (by decide) rfl trivial dX6_parents_17)
theorem inX6_parentAt_6 : ∀ w ∈ u_ws RX6 TX6 23, w ∈ wsX6_parentAt := by decide +kernel
theorem lkX6_parentAt_21 : Cond.fieldLink RX6 21 "MergeAtelierModel" "seconds" "[I" ∈ wsX6_parentAt := by decide +kernel
theorem lkX6_parentAt_17 : Cond.fieldLink RX6 17 "MergeAtelierModel" "firsts" "[I" ∈ wsX6_parentAt := by decide +kernel
set_option maxHeartbeats 4000000 in
set_option maxRecDepth 100000 in
theorem kX6_parentAt_ok (l : Launch) (g : vG) {mm b1 b2 b3 b4 b5 b6 b7 b8 b9 b10 b11 b12 b13 b14 b15 b16 b17 : Nat} {kinds tgs first second vals qs : Nat → Int} {hds An qi qo Tm Nw Kw ris : Nat → Nat} {ni bc cm cn qc cd : Nat} {x0 : Nat} {y : Int} (hI : MI vals ris cn kinds tgs first second qs hds An qi qo Tm ni bc cm qc) (hx0 : x0 < cm) (hy : b31 y) (hy3 : 0 ≤ y) (hy4 : y < ((pcn (first (x0)) (second (x0)) : Nat) : Int)) : mI l g yX6_parentAt wsX6_parentAt ({ frames := 3, cells := 0, slots := 0, locals := 64 }) [.ref (mm), .int (iI ((x0 : Nat) : Int)), .int (iI (y))] (wMM g mm b1 b2 b3 b4 b5 b6 b7 b8 b9 b10 b11 b12 b13 b14 b15 b16 b17 kinds ni cm first second An An Tm Tm bc hds tgs qc qi qo qs cn vals Nw Nw Kw Kw cd ++ ([])) (fun _ : Unit => wMM g mm b1 b2 b3 b4 b5 b6 b7 b8 b9 b10 b11 b12 b13 b14 b15 b16 b17 kinds ni cm first second An An Tm Tm bc hds tgs qc qi qo qs cn vals Nw Nw Kw Kw 0 ++ ([])) (fun v _ => v = iI (if y = 0 then first (x0) else second (x0))) 0 0 := by
  refine mI_of (cc := cX6_parentAt) (maxL := 3) (ret := (some .int)) (own := RX6) (by decide) rfl rfl (Nat.le_of_ble_eq_true rfl) ?_
  intro p e s m args below meth c A C hr hl hin
  obtain ⟨hni, hbc1, hbc, hcm1, hcm, hcn1, hnm, hqc, hhd, htg, hf, hs, hfc, hsc, hAn, hTm, hao, hpal, hqb, hqi, htk, hkd⟩ := id hI
  have hy1 := hy.1
  have hy2 := hy.2
  refine v_aload_n C dX6_parentAt_0 rfl 0 rfl ?_
  refine v_iload_n C dX6_parentAt_1 rfl 1 rfl ?_
  refine v_invVI C (As := [.int (iI ((x0 : Nat) : Int))]) (q0 := 0) (ci := 6) (kX6_isNone_in l g (mm := mm) (b1 := b1) (b2 := b2) (b3 := b3) (b4 := b4) (b5 := b5) (b6 := b6) (b7 := b7) (b8 := b8) (b9 := b9) (b10 := b10) (b11 := b11) (b12 := b12) (b13 := b13) (b14 := b14) (b15 := b15) (b16 := b16) (b17 := b17) (kinds := kinds) (tgs := tgs) (first := first) (second := second) (vals := vals) (qs := qs) (hds := hds) (An := An) (qi := qi) (qo := qo) (Tm := Tm) (Nw := Nw) (Kw := Kw) (ni := ni) (bc := bc) (cm := cm) (cn := cn) (qc := qc) (cd := cd) (ris := ris) (i0 := x0) (by omega) (by omega)) (cwV 1 C.2.2.2.2.1 gX6_parentAt_X6_isNone rfl rfl rfl (by decide +kernel) ⟨Nat.le_of_ble_eq_true rfl, Nat.le_of_ble_eq_true rfl⟩) [wMM g mm b1 b2 b3 b4 b5 b6 b7 b8 b9 b10 b11 b12 b13 b14 b15 b16 b17 kinds ni cm first second An An Tm Tm bc hds tgs qc qi qo qs cn vals Nw Nw Kw Kw cd] [0] [] [] (fun _ => [wMM g mm b1 b2 b3 b4 b5 b6 b7 b8 b9 b10 b11 b12 b13 b14 b15 b16 b17 kinds ni cm first second An An Tm Tm bc hds tgs qc qi qo qs cn vals Nw Nw Kw Kw 0]) (fun _ => wMM g mm b1 b2 b3 b4 b5 b6 b7 b8 b9 b10 b11 b12 b13 b14 b15 b16 b17 kinds ni cm first second An An Tm Tm bc hds tgs qc qi qo qs cn vals Nw Nw Kw Kw 0 ++ ([])) rfl rfl rfl (fun _ => rfl) (fun _ => rfl) (fun _ => rfl) (fun _ => rfl) rfl rfl rfl rfl rfl (Nat.le_of_ble_eq_true rfl) dX6_parentAt_2 ⟨by decide, by decide⟩ (fun r_2 _ h_1 => ?_)
  subst h_1
  refine v_ifz_ne C 35 dX6_parentAt_5 (by decide) (fun h => nomatch h) (fun _ => ?_)
  refine v_aload_n C dX6_parentAt_8 rfl 0 rfl ?_
  refine v_iload_n C dX6_parentAt_9 rfl 2 rfl ?_
  refine v_iconst C (z := 0) dX6_parentAt_10 ?_
  refine v_aload_n C dX6_parentAt_11 rfl 0 rfl ?_
  refine v_iload_n C dX6_parentAt_12 rfl 1 rfl ?_
  refine v_invVI C (As := [.int (iI ((x0 : Nat) : Int))]) (q0 := 0) (ci := 6) (kX6_parentsOf l g (mm := mm) (b1 := b1) (b2 := b2) (b3 := b3) (b4 := b4) (b5 := b5) (b6 := b6) (b7 := b7) (b8 := b8) (b9 := b9) (b10 := b10) (b11 := b11) (b12 := b12) (b13 := b13) (b14 := b14) (b15 := b15) (b16 := b16) (b17 := b17) (kinds := kinds) (tgs := tgs) (first := first) (second := second) (vals := vals) (qs := qs) (hds := hds) (An := An) (qi := qi) (qo := qo) (Tm := Tm) (Nw := Nw) (Kw := Kw) (ni := ni) (bc := bc) (cm := cm) (cn := cn) (qc := qc) (cd := 0) (ris := ris) (c0 := x0) (by omega) hf hs) (cwV 1 C.2.2.2.2.1 gX6_parentAt_X6_parentsOf rfl rfl rfl (by decide +kernel) ⟨Nat.le_of_ble_eq_true rfl, Nat.le_of_ble_eq_true rfl⟩) [wMM g mm b1 b2 b3 b4 b5 b6 b7 b8 b9 b10 b11 b12 b13 b14 b15 b16 b17 kinds ni cm first second An An Tm Tm bc hds tgs qc qi qo qs cn vals Nw Nw Kw Kw 0] [0] [] [.int (iI (0)), .int (iI (y)), .ref (mm)] (fun _ => [wMM g mm b1 b2 b3 b4 b5 b6 b7 b8 b9 b10 b11 b12 b13 b14 b15 b16 b17 kinds ni cm first second An An Tm Tm bc hds tgs qc qi qo qs cn vals Nw Nw Kw Kw 0]) (fun _ => wMM g mm b1 b2 b3 b4 b5 b6 b7 b8 b9 b10 b11 b12 b13 b14 b15 b16 b17 kinds ni cm first second An An Tm Tm bc hds tgs qc qi qo qs cn vals Nw Nw Kw Kw 0 ++ ([])) rfl rfl rfl (fun _ => rfl) (fun _ => rfl) (fun _ => rfl) (fun _ => rfl) rfl rfl rfl rfl rfl (Nat.le_of_ble_eq_true rfl) dX6_parentAt_13 ⟨by decide, by decide⟩ (fun r_4 _ h_3 => ?_)
  subst h_3
  have hpc1 := (pcn31 (first (x0)) (second (x0))).1
  have hpc2 := (pcn31 (first (x0)) (second (x0))).2
  refine v_iconst C (z := 1) dX6_parentAt_16 ?_
  refine v_isub C dX6_parentAt_17 ?_
  refine v_invSI C (As := [.int (iI (y)), .int (iI (0)), .int (iI ((((pcn (first x0) (second x0) : Nat) : Int)) - 1))]) (kX6_in_t l g  (x := y) (y := 0) (z := (((pcn (first x0) (second x0) : Nat) : Int)) - 1) ⟨by omega, by omega⟩ (b31_lit _ rfl) ⟨by omega, by omega⟩ (by omega) (by omega)) (cwS 3 C.2.2.2.2.1 gX6_parentAt_X6_in rfl rfl rfl (by decide +kernel) ⟨Nat.le_of_ble_eq_true rfl, Nat.le_of_ble_eq_true rfl⟩) [wMM g mm b1 b2 b3 b4 b5 b6 b7 b8 b9 b10 b11 b12 b13 b14 b15 b16 b17 kinds ni cm first second An An Tm Tm bc hds tgs qc qi qo qs cn vals Nw Nw Kw Kw 0] [] [0] [.ref (mm)] (fun _ => [wMM g mm b1 b2 b3 b4 b5 b6 b7 b8 b9 b10 b11 b12 b13 b14 b15 b16 b17 kinds ni cm first second An An Tm Tm bc hds tgs qc qi qo qs cn vals Nw Nw Kw Kw 0]) (fun _ => wMM g mm b1 b2 b3 b4 b5 b6 b7 b8 b9 b10 b11 b12 b13 b14 b15 b16 b17 kinds ni cm first second An An Tm Tm bc hds tgs qc qi qo qs cn vals Nw Nw Kw Kw 0 ++ ([])) rfl rfl rfl (fun _ => rfl) (fun _ => rfl) (fun _ => rfl) (fun _ => rfl) rfl rfl (Nat.le_of_ble_eq_true rfl) dX6_parentAt_18 ⟨by decide, by decide⟩ (fun r_6 _ h_5 => ?_)
  subst h_5
  refine v_ifz_eq C 28 dX6_parentAt_21 (by decide) (fun h => nomatch h) (fun _ => ?_)
  refine v_iconst C (z := 0) dX6_parentAt_24 ?_
  refine v_goto C 29 dX6_parentAt_25 (by decide) ?_
  refine v_invVI C (As := [.int (iI (0))]) (q0 := 0) (ci := 6) (kX6_fails_z l g (mm := mm) (b1 := b1) (b2 := b2) (b3 := b3) (b4 := b4) (b5 := b5) (b6 := b6) (b7 := b7) (b8 := b8) (b9 := b9) (b10 := b10) (b11 := b11) (b12 := b12) (b13 := b13) (b14 := b14) (b15 := b15) (b16 := b16) (b17 := b17) (kinds := kinds) (tgs := tgs) (first := first) (second := second) (vals := vals) (qs := qs) (hds := hds) (An := An) (qi := qi) (qo := qo) (Tm := Tm) (Nw := Nw) (Kw := Kw) (ni := ni) (bc := bc) (cm := cm) (cn := cn) (qc := qc) (cd := 0) (ris := ris)  ) (cwV 1 C.2.2.2.2.1 gX6_parentAt_X6_fails rfl rfl rfl (by decide +kernel) ⟨Nat.le_of_ble_eq_true rfl, Nat.le_of_ble_eq_true rfl⟩) [wMM g mm b1 b2 b3 b4 b5 b6 b7 b8 b9 b10 b11 b12 b13 b14 b15 b16 b17 kinds ni cm first second An An Tm Tm bc hds tgs qc qi qo qs cn vals Nw Nw Kw Kw 0] [0] [] [] (fun _ => [wMM g mm b1 b2 b3 b4 b5 b6 b7 b8 b9 b10 b11 b12 b13 b14 b15 b16 b17 kinds ni cm first second An An Tm Tm bc hds tgs qc qi qo qs cn vals Nw Nw Kw Kw 0]) (fun _ => wMM g mm b1 b2 b3 b4 b5 b6 b7 b8 b9 b10 b11 b12 b13 b14 b15 b16 b17 kinds ni cm first second An An Tm Tm bc hds tgs qc qi qo qs cn vals Nw Nw Kw Kw 0 ++ ([])) rfl rfl rfl (fun _ => rfl) (fun _ => rfl) (fun _ => rfl) (fun _ => rfl) rfl rfl rfl rfl rfl (Nat.le_of_ble_eq_true rfl) dX6_parentAt_29 ⟨by decide, by decide⟩ (fun r_8 _ h_7 => ?_)
  subst h_7
  refine v_ifz_eq C 39 dX6_parentAt_32 (by decide) (fun _ => ?_) (fun h => nomatch h) 
  refine v_iload_n C dX6_parentAt_39 rfl 2 rfl ?_
  refine v_if_ne C 52 dX6_parentAt_40 (by decide) ⟨by omega, by omega⟩ (fun c_9 => ?_) (fun c_9 => ?_)
  ·
    refine v_aload_n C dX6_parentAt_52 rfl 0 rfl ?_
    refine v_get C 0 (kf := 4) rfl rfl (by decide) inX6_parentAt_6 lkX6_parentAt_21 rfl rfl dX6_parentAt_53 ?_
    refine v_iload_n C dX6_parentAt_56 rfl 1 rfl ?_
    refine v_iald C 3 (x0) rfl rfl (by omega) (by decide) dX6_parentAt_57 ?_
    exact (v_iret C hr hl () (by decide) (by decide) rfl (congrArg iI (if_neg c_9).symm) dX6_parentAt_58)
  ·
    refine v_aload_n C dX6_parentAt_43 rfl 0 rfl ?_
    refine v_get C 0 (kf := 3) rfl rfl (by decide) inX6_parentAt_6 lkX6_parentAt_17 rfl rfl dX6_parentAt_44 ?_
    refine v_iload_n C dX6_parentAt_47 rfl 1 rfl ?_
    refine v_iald C 2 (x0) rfl rfl (by omega) (by decide) dX6_parentAt_48 ?_
    refine v_goto C 58 dX6_parentAt_49 (by decide) ?_
    exact (v_iret C hr hl () (by decide) (by decide) rfl (congrArg iI (if_pos c_9).symm) dX6_parentAt_58)
set_option maxHeartbeats 4000000 in
set_option maxRecDepth 100000 in
theorem kX6_parentAt_a (l : Launch) (g : vG) {mm b1 b2 b3 b4 b5 b6 b7 b8 b9 b10 b11 b12 b13 b14 b15 b16 b17 : Nat} {kinds tgs first second vals qs : Nat → Int} {hds An qi qo Tm Nw Kw ris : Nat → Nat} {ni bc cm cn qc cd : Nat} {x : Int} {y : Int} (hI : MI vals ris cn kinds tgs first second qs hds An qi qo Tm ni bc cm qc) (hx : b31 x) (hqx : ¬ (0 ≤ x ∧ x < ((cm : Nat) : Int))) (hy : b31 y)  : mI l g yX6_parentAt wsX6_parentAt ({ frames := 3, cells := 0, slots := 0, locals := 64 }) [.ref (mm), .int (iI (x)), .int (iI (y))] (wMM g mm b1 b2 b3 b4 b5 b6 b7 b8 b9 b10 b11 b12 b13 b14 b15 b16 b17 kinds ni cm first second An An Tm Tm bc hds tgs qc qi qo qs cn vals Nw Nw Kw Kw cd ++ ([])) (fun _ : Unit => wMM g mm b1 b2 b3 b4 b5 b6 b7 b8 b9 b10 b11 b12 b13 b14 b15 b16 b17 kinds ni cm first second An An Tm Tm bc hds tgs qc qi qo qs cn vals Nw Nw Kw Kw 1 ++ ([])) (fun _ _ => True) 0 0 := by
  refine mI_of (cc := cX6_parentAt) (maxL := 3) (ret := (some .int)) (own := RX6) (by decide) rfl rfl (Nat.le_of_ble_eq_true rfl) ?_
  intro p e s m args below meth c A C hr hl hin
  obtain ⟨hni, hbc1, hbc, hcm1, hcm, hcn1, hnm, hqc, hhd, htg, hf, hs, hfc, hsc, hAn, hTm, hao, hpal, hqb, hqi, htk, hkd⟩ := id hI
  have hx1 := hx.1
  have hx2 := hx.2
  have hy1 := hy.1
  have hy2 := hy.2
  refine v_aload_n C dX6_parentAt_0 rfl 0 rfl ?_
  refine v_iload_n C dX6_parentAt_1 rfl 1 rfl ?_
  refine v_invVI C (As := [.int (iI (x))]) (q0 := 0) (ci := 6) (kX6_isNone_out l g (mm := mm) (b1 := b1) (b2 := b2) (b3 := b3) (b4 := b4) (b5 := b5) (b6 := b6) (b7 := b7) (b8 := b8) (b9 := b9) (b10 := b10) (b11 := b11) (b12 := b12) (b13 := b13) (b14 := b14) (b15 := b15) (b16 := b16) (b17 := b17) (kinds := kinds) (tgs := tgs) (first := first) (second := second) (vals := vals) (qs := qs) (hds := hds) (An := An) (qi := qi) (qo := qo) (Tm := Tm) (Nw := Nw) (Kw := Kw) (ni := ni) (bc := bc) (cm := cm) (cn := cn) (qc := qc) (cd := cd) (ris := ris) (x := x) ⟨by omega, by omega⟩ (by omega) (by omega)) (cwV 1 C.2.2.2.2.1 gX6_parentAt_X6_isNone rfl rfl rfl (by decide +kernel) ⟨Nat.le_of_ble_eq_true rfl, Nat.le_of_ble_eq_true rfl⟩) [wMM g mm b1 b2 b3 b4 b5 b6 b7 b8 b9 b10 b11 b12 b13 b14 b15 b16 b17 kinds ni cm first second An An Tm Tm bc hds tgs qc qi qo qs cn vals Nw Nw Kw Kw cd] [0] [] [] (fun _ => [wMM g mm b1 b2 b3 b4 b5 b6 b7 b8 b9 b10 b11 b12 b13 b14 b15 b16 b17 kinds ni cm first second An An Tm Tm bc hds tgs qc qi qo qs cn vals Nw Nw Kw Kw 1]) (fun _ => wMM g mm b1 b2 b3 b4 b5 b6 b7 b8 b9 b10 b11 b12 b13 b14 b15 b16 b17 kinds ni cm first second An An Tm Tm bc hds tgs qc qi qo qs cn vals Nw Nw Kw Kw 1 ++ ([])) rfl rfl rfl (fun _ => rfl) (fun _ => rfl) (fun _ => rfl) (fun _ => rfl) rfl rfl rfl rfl rfl (Nat.le_of_ble_eq_true rfl) dX6_parentAt_2 ⟨by decide, by decide⟩ (fun r_2 _ h_1 => ?_)
  subst h_1
  refine v_ifz_ne C 35 dX6_parentAt_5 (by decide) (fun _ => ?_) (fun h => nomatch h) 
  refine v_iconst C (z := 0) dX6_parentAt_35 ?_
  refine v_goto C 58 dX6_parentAt_36 (by decide) ?_
  exact (v_iret C hr hl () (by decide) (by decide) rfl trivial dX6_parentAt_58)
set_option maxHeartbeats 4000000 in
set_option maxRecDepth 100000 in
theorem kX6_parentAt_2 (l : Launch) (g : vG) {mm b1 b2 b3 b4 b5 b6 b7 b8 b9 b10 b11 b12 b13 b14 b15 b16 b17 : Nat} {kinds tgs first second vals qs : Nat → Int} {hds An qi qo Tm Nw Kw ris : Nat → Nat} {ni bc cm cn qc cd : Nat} {x0 : Nat} {y : Int} (hI : MI vals ris cn kinds tgs first second qs hds An qi qo Tm ni bc cm qc) (hx0 : x0 < cm) (hy : b31 y) (hq : ¬ (0 ≤ y ∧ y < ((pcn (first (x0)) (second (x0)) : Nat) : Int))) : mI l g yX6_parentAt wsX6_parentAt ({ frames := 3, cells := 0, slots := 0, locals := 64 }) [.ref (mm), .int (iI ((x0 : Nat) : Int)), .int (iI (y))] (wMM g mm b1 b2 b3 b4 b5 b6 b7 b8 b9 b10 b11 b12 b13 b14 b15 b16 b17 kinds ni cm first second An An Tm Tm bc hds tgs qc qi qo qs cn vals Nw Nw Kw Kw cd ++ ([])) (fun _ : Unit => wMM g mm b1 b2 b3 b4 b5 b6 b7 b8 b9 b10 b11 b12 b13 b14 b15 b16 b17 kinds ni cm first second An An Tm Tm bc hds tgs qc qi qo qs cn vals Nw Nw Kw Kw 2 ++ ([])) (fun _ _ => True) 0 0 := by
  refine mI_of (cc := cX6_parentAt) (maxL := 3) (ret := (some .int)) (own := RX6) (by decide) rfl rfl (Nat.le_of_ble_eq_true rfl) ?_
  intro p e s m args below meth c A C hr hl hin
  obtain ⟨hni, hbc1, hbc, hcm1, hcm, hcn1, hnm, hqc, hhd, htg, hf, hs, hfc, hsc, hAn, hTm, hao, hpal, hqb, hqi, htk, hkd⟩ := id hI
  have hy1 := hy.1
  have hy2 := hy.2
  refine v_aload_n C dX6_parentAt_0 rfl 0 rfl ?_
  refine v_iload_n C dX6_parentAt_1 rfl 1 rfl ?_
  refine v_invVI C (As := [.int (iI ((x0 : Nat) : Int))]) (q0 := 0) (ci := 6) (kX6_isNone_in l g (mm := mm) (b1 := b1) (b2 := b2) (b3 := b3) (b4 := b4) (b5 := b5) (b6 := b6) (b7 := b7) (b8 := b8) (b9 := b9) (b10 := b10) (b11 := b11) (b12 := b12) (b13 := b13) (b14 := b14) (b15 := b15) (b16 := b16) (b17 := b17) (kinds := kinds) (tgs := tgs) (first := first) (second := second) (vals := vals) (qs := qs) (hds := hds) (An := An) (qi := qi) (qo := qo) (Tm := Tm) (Nw := Nw) (Kw := Kw) (ni := ni) (bc := bc) (cm := cm) (cn := cn) (qc := qc) (cd := cd) (ris := ris) (i0 := x0) (by omega) (by omega)) (cwV 1 C.2.2.2.2.1 gX6_parentAt_X6_isNone rfl rfl rfl (by decide +kernel) ⟨Nat.le_of_ble_eq_true rfl, Nat.le_of_ble_eq_true rfl⟩) [wMM g mm b1 b2 b3 b4 b5 b6 b7 b8 b9 b10 b11 b12 b13 b14 b15 b16 b17 kinds ni cm first second An An Tm Tm bc hds tgs qc qi qo qs cn vals Nw Nw Kw Kw cd] [0] [] [] (fun _ => [wMM g mm b1 b2 b3 b4 b5 b6 b7 b8 b9 b10 b11 b12 b13 b14 b15 b16 b17 kinds ni cm first second An An Tm Tm bc hds tgs qc qi qo qs cn vals Nw Nw Kw Kw 0]) (fun _ => wMM g mm b1 b2 b3 b4 b5 b6 b7 b8 b9 b10 b11 b12 b13 b14 b15 b16 b17 kinds ni cm first second An An Tm Tm bc hds tgs qc qi qo qs cn vals Nw Nw Kw Kw 0 ++ ([])) rfl rfl rfl (fun _ => rfl) (fun _ => rfl) (fun _ => rfl) (fun _ => rfl) rfl rfl rfl rfl rfl (Nat.le_of_ble_eq_true rfl) dX6_parentAt_2 ⟨by decide, by decide⟩ (fun r_2 _ h_1 => ?_)
  subst h_1
  refine v_ifz_ne C 35 dX6_parentAt_5 (by decide) (fun h => nomatch h) (fun _ => ?_)
  refine v_aload_n C dX6_parentAt_8 rfl 0 rfl ?_
  refine v_iload_n C dX6_parentAt_9 rfl 2 rfl ?_
  refine v_iconst C (z := 0) dX6_parentAt_10 ?_
  refine v_aload_n C dX6_parentAt_11 rfl 0 rfl ?_
  refine v_iload_n C dX6_parentAt_12 rfl 1 rfl ?_
  refine v_invVI C (As := [.int (iI ((x0 : Nat) : Int))]) (q0 := 0) (ci := 6) (kX6_parentsOf l g (mm := mm) (b1 := b1) (b2 := b2) (b3 := b3) (b4 := b4) (b5 := b5) (b6 := b6) (b7 := b7) (b8 := b8) (b9 := b9) (b10 := b10) (b11 := b11) (b12 := b12) (b13 := b13) (b14 := b14) (b15 := b15) (b16 := b16) (b17 := b17) (kinds := kinds) (tgs := tgs) (first := first) (second := second) (vals := vals) (qs := qs) (hds := hds) (An := An) (qi := qi) (qo := qo) (Tm := Tm) (Nw := Nw) (Kw := Kw) (ni := ni) (bc := bc) (cm := cm) (cn := cn) (qc := qc) (cd := 0) (ris := ris) (c0 := x0) (by omega) hf hs) (cwV 1 C.2.2.2.2.1 gX6_parentAt_X6_parentsOf rfl rfl rfl (by decide +kernel) ⟨Nat.le_of_ble_eq_true rfl, Nat.le_of_ble_eq_true rfl⟩) [wMM g mm b1 b2 b3 b4 b5 b6 b7 b8 b9 b10 b11 b12 b13 b14 b15 b16 b17 kinds ni cm first second An An Tm Tm bc hds tgs qc qi qo qs cn vals Nw Nw Kw Kw 0] [0] [] [.int (iI (0)), .int (iI (y)), .ref (mm)] (fun _ => [wMM g mm b1 b2 b3 b4 b5 b6 b7 b8 b9 b10 b11 b12 b13 b14 b15 b16 b17 kinds ni cm first second An An Tm Tm bc hds tgs qc qi qo qs cn vals Nw Nw Kw Kw 0]) (fun _ => wMM g mm b1 b2 b3 b4 b5 b6 b7 b8 b9 b10 b11 b12 b13 b14 b15 b16 b17 kinds ni cm first second An An Tm Tm bc hds tgs qc qi qo qs cn vals Nw Nw Kw Kw 0 ++ ([])) rfl rfl rfl (fun _ => rfl) (fun _ => rfl) (fun _ => rfl) (fun _ => rfl) rfl rfl rfl rfl rfl (Nat.le_of_ble_eq_true rfl) dX6_parentAt_13 ⟨by decide, by decide⟩ (fun r_4 _ h_3 => ?_)
  subst h_3
  have hpc1 := (pcn31 (first (x0)) (second (x0))).1
  have hpc2 := (pcn31 (first (x0)) (second (x0))).2
  refine v_iconst C (z := 1) dX6_parentAt_16 ?_
  refine v_isub C dX6_parentAt_17 ?_
  refine v_invSI C (As := [.int (iI (y)), .int (iI (0)), .int (iI ((((pcn (first x0) (second x0) : Nat) : Int)) - 1))]) (kX6_in_f l g  (x := y) (y := 0) (z := (((pcn (first x0) (second x0) : Nat) : Int)) - 1) ⟨by omega, by omega⟩ (b31_lit _ rfl) ⟨by omega, by omega⟩ (by omega)) (cwS 3 C.2.2.2.2.1 gX6_parentAt_X6_in rfl rfl rfl (by decide +kernel) ⟨Nat.le_of_ble_eq_true rfl, Nat.le_of_ble_eq_true rfl⟩) [wMM g mm b1 b2 b3 b4 b5 b6 b7 b8 b9 b10 b11 b12 b13 b14 b15 b16 b17 kinds ni cm first second An An Tm Tm bc hds tgs qc qi qo qs cn vals Nw Nw Kw Kw 0] [] [0] [.ref (mm)] (fun _ => [wMM g mm b1 b2 b3 b4 b5 b6 b7 b8 b9 b10 b11 b12 b13 b14 b15 b16 b17 kinds ni cm first second An An Tm Tm bc hds tgs qc qi qo qs cn vals Nw Nw Kw Kw 0]) (fun _ => wMM g mm b1 b2 b3 b4 b5 b6 b7 b8 b9 b10 b11 b12 b13 b14 b15 b16 b17 kinds ni cm first second An An Tm Tm bc hds tgs qc qi qo qs cn vals Nw Nw Kw Kw 0 ++ ([])) rfl rfl rfl (fun _ => rfl) (fun _ => rfl) (fun _ => rfl) (fun _ => rfl) rfl rfl (Nat.le_of_ble_eq_true rfl) dX6_parentAt_18 ⟨by decide, by decide⟩ (fun r_6 _ h_5 => ?_)
  subst h_5
  refine v_ifz_eq C 28 dX6_parentAt_21 (by decide) (fun _ => ?_) (fun h => nomatch h) 
  refine v_iconst C (z := 2) dX6_parentAt_28 ?_
  refine v_invVI C (As := [.int (iI (2))]) (q0 := 0) (ci := 6) (kX6_fails_p l g (mm := mm) (b1 := b1) (b2 := b2) (b3 := b3) (b4 := b4) (b5 := b5) (b6 := b6) (b7 := b7) (b8 := b8) (b9 := b9) (b10 := b10) (b11 := b11) (b12 := b12) (b13 := b13) (b14 := b14) (b15 := b15) (b16 := b16) (b17 := b17) (kinds := kinds) (tgs := tgs) (first := first) (second := second) (vals := vals) (qs := qs) (hds := hds) (An := An) (qi := qi) (qo := qo) (Tm := Tm) (Nw := Nw) (Kw := Kw) (ni := ni) (bc := bc) (cm := cm) (cn := cn) (qc := qc) (cd := 0) (ris := ris) (q := 2) (by decide)) (cwV 1 C.2.2.2.2.1 gX6_parentAt_X6_fails rfl rfl rfl (by decide +kernel) ⟨Nat.le_of_ble_eq_true rfl, Nat.le_of_ble_eq_true rfl⟩) [wMM g mm b1 b2 b3 b4 b5 b6 b7 b8 b9 b10 b11 b12 b13 b14 b15 b16 b17 kinds ni cm first second An An Tm Tm bc hds tgs qc qi qo qs cn vals Nw Nw Kw Kw 0] [0] [] [] (fun _ => [wMM g mm b1 b2 b3 b4 b5 b6 b7 b8 b9 b10 b11 b12 b13 b14 b15 b16 b17 kinds ni cm first second An An Tm Tm bc hds tgs qc qi qo qs cn vals Nw Nw Kw Kw 2]) (fun _ => wMM g mm b1 b2 b3 b4 b5 b6 b7 b8 b9 b10 b11 b12 b13 b14 b15 b16 b17 kinds ni cm first second An An Tm Tm bc hds tgs qc qi qo qs cn vals Nw Nw Kw Kw 2 ++ ([])) rfl rfl rfl (fun _ => rfl) (fun _ => rfl) (fun _ => rfl) (fun _ => rfl) rfl rfl rfl rfl rfl (Nat.le_of_ble_eq_true rfl) dX6_parentAt_29 ⟨by decide, by decide⟩ (fun r_8 _ h_7 => ?_)
  subst h_7
  refine v_ifz_eq C 39 dX6_parentAt_32 (by decide) (fun h => nomatch h) (fun _ => ?_)
  refine v_iconst C (z := 0) dX6_parentAt_35 ?_
  refine v_goto C 58 dX6_parentAt_36 (by decide) ?_
  exact (v_iret C hr hl () (by decide) (by decide) rfl trivial dX6_parentAt_58)
set_option maxHeartbeats 4000000 in
set_option maxRecDepth 100000 in
theorem kX6_isAncestor_ok (l : Launch) (g : vG) {mm b1 b2 b3 b4 b5 b6 b7 b8 b9 b10 b11 b12 b13 b14 b15 b16 b17 : Nat} {kinds tgs first second vals qs : Nat → Int} {hds An qi qo Tm Nw Kw ris : Nat → Nat} {ni bc cm cn qc cd : Nat} {x0 : Nat} {y0 : Nat} (hI : MI vals ris cn kinds tgs first second qs hds An qi qo Tm ni bc cm qc) (hx0 : x0 < cm) (hy0 : y0 < cm)  : mI l g yX6_isAncestor wsX6_isAncestor ({ frames := 3, cells := 0, slots := 0, locals := 65 }) [.ref (mm), .int (iI ((x0 : Nat) : Int)), .int (iI ((y0 : Nat) : Int))] (wMM g mm b1 b2 b3 b4 b5 b6 b7 b8 b9 b10 b11 b12 b13 b14 b15 b16 b17 kinds ni cm first second An An Tm Tm bc hds tgs qc qi qo qs cn vals Nw Nw Kw Kw cd ++ ([])) (fun _ : Unit => wMM g mm b1 b2 b3 b4 b5 b6 b7 b8 b9 b10 b11 b12 b13 b14 b15 b16 b17 kinds ni cm first second An An Tm Tm bc hds tgs qc qi qo qs cn vals Nw Nw Kw Kw 0 ++ ([])) (fun v _ => v = iI (bZ ((An (y0)).testBit x0))) 0 0 := by
  refine mI_of (cc := cX6_isAncestor) (maxL := 3) (ret := (some .boolean)) (own := RX6) (by decide) rfl rfl (Nat.le_of_ble_eq_true rfl) ?_
  intro p e s m args below meth c A C hr hl hin
  obtain ⟨hni, hbc1, hbc, hcm1, hcm, hcn1, hnm, hqc, hhd, htg, hf, hs, hfc, hsc, hAn, hTm, hao, hpal, hqb, hqi, htk, hkd⟩ := id hI
  refine v_aload_n C dX6_isAncestor_0 rfl 0 rfl ?_
  refine v_iload_n C dX6_isAncestor_1 rfl 1 rfl ?_
  refine v_iload_n C dX6_isAncestor_2 rfl 2 rfl ?_
  refine v_invVI C (As := [.int (iI ((x0 : Nat) : Int)), .int (iI ((y0 : Nat) : Int))]) (q0 := 0) (ci := 6) (kX6_isNoPair_in l g (mm := mm) (b1 := b1) (b2 := b2) (b3 := b3) (b4 := b4) (b5 := b5) (b6 := b6) (b7 := b7) (b8 := b8) (b9 := b9) (b10 := b10) (b11 := b11) (b12 := b12) (b13 := b13) (b14 := b14) (b15 := b15) (b16 := b16) (b17 := b17) (kinds := kinds) (tgs := tgs) (first := first) (second := second) (vals := vals) (qs := qs) (hds := hds) (An := An) (qi := qi) (qo := qo) (Tm := Tm) (Nw := Nw) (Kw := Kw) (ni := ni) (bc := bc) (cm := cm) (cn := cn) (qc := qc) (cd := cd) (ris := ris) (i0 := x0) (j0 := y0) (by omega) (by omega) (by omega) (by omega)) (cwV 2 C.2.2.2.2.1 gX6_isAncestor_X6_isNoPair rfl rfl rfl (by decide +kernel) ⟨Nat.le_of_ble_eq_true rfl, Nat.le_of_ble_eq_true rfl⟩) [wMM g mm b1 b2 b3 b4 b5 b6 b7 b8 b9 b10 b11 b12 b13 b14 b15 b16 b17 kinds ni cm first second An An Tm Tm bc hds tgs qc qi qo qs cn vals Nw Nw Kw Kw cd] [0] [] [] (fun _ => [wMM g mm b1 b2 b3 b4 b5 b6 b7 b8 b9 b10 b11 b12 b13 b14 b15 b16 b17 kinds ni cm first second An An Tm Tm bc hds tgs qc qi qo qs cn vals Nw Nw Kw Kw 0]) (fun _ => wMM g mm b1 b2 b3 b4 b5 b6 b7 b8 b9 b10 b11 b12 b13 b14 b15 b16 b17 kinds ni cm first second An An Tm Tm bc hds tgs qc qi qo qs cn vals Nw Nw Kw Kw 0 ++ ([])) rfl rfl rfl (fun _ => rfl) (fun _ => rfl) (fun _ => rfl) (fun _ => rfl) rfl rfl rfl rfl rfl (Nat.le_of_ble_eq_true rfl) dX6_isAncestor_3 ⟨by decide, by decide⟩ (fun r_2 _ h_1 => ?_)
  subst h_1
  refine v_ifz_ne C 22 dX6_isAncestor_6 (by decide) (fun h => nomatch h) (fun _ => ?_)
  refine v_aload_n C dX6_isAncestor_9 rfl 0 rfl ?_
  refine v_iload_n C dX6_isAncestor_10 rfl 1 rfl ?_
  refine v_iload_n C dX6_isAncestor_11 rfl 2 rfl ?_
  refine v_invVI C (As := [.int (iI ((x0 : Nat) : Int)), .int (iI ((y0 : Nat) : Int))]) (q0 := 0) (ci := 6) (kX6_isOld l g (mm := mm) (b1 := b1) (b2 := b2) (b3 := b3) (b4 := b4) (b5 := b5) (b6 := b6) (b7 := b7) (b8 := b8) (b9 := b9) (b10 := b10) (b11 := b11) (b12 := b12) (b13 := b13) (b14 := b14) (b15 := b15) (b16 := b16) (b17 := b17) (kinds := kinds) (tgs := tgs) (first := first) (second := second) (vals := vals) (qs := qs) (hds := hds) (An := An) (qi := qi) (qo := qo) (Tm := Tm) (Nw := Nw) (Kw := Kw) (ni := ni) (bc := bc) (cm := cm) (cn := cn) (qc := qc) (cd := 0) (ris := ris) (c0 := x0) (d0 := y0) (by omega) (by omega) hAn) (cwV 2 C.2.2.2.2.1 gX6_isAncestor_X6_isOld rfl rfl rfl (by decide +kernel) ⟨Nat.le_of_ble_eq_true rfl, Nat.le_of_ble_eq_true rfl⟩) [wMM g mm b1 b2 b3 b4 b5 b6 b7 b8 b9 b10 b11 b12 b13 b14 b15 b16 b17 kinds ni cm first second An An Tm Tm bc hds tgs qc qi qo qs cn vals Nw Nw Kw Kw 0] [0] [] [] (fun _ => [wMM g mm b1 b2 b3 b4 b5 b6 b7 b8 b9 b10 b11 b12 b13 b14 b15 b16 b17 kinds ni cm first second An An Tm Tm bc hds tgs qc qi qo qs cn vals Nw Nw Kw Kw 0]) (fun _ => wMM g mm b1 b2 b3 b4 b5 b6 b7 b8 b9 b10 b11 b12 b13 b14 b15 b16 b17 kinds ni cm first second An An Tm Tm bc hds tgs qc qi qo qs cn vals Nw Nw Kw Kw 0 ++ ([])) rfl rfl rfl (fun _ => rfl) (fun _ => rfl) (fun _ => rfl) (fun _ => rfl) rfl rfl rfl rfl rfl (Nat.le_of_ble_eq_true rfl) dX6_isAncestor_12 ⟨by decide, by decide⟩ (fun r_4 _ h_3 => ?_)
  subst h_3
  refine v_ifz_eq C 22 dX6_isAncestor_15 (by decide) (fun c_5 => ?_) (fun c_5 => ?_)
  ·
    refine v_iconst C (z := 0) dX6_isAncestor_22 ?_
    exact (v_zret C hr hl () rfl (by decide) (by decide) rfl (bz_f c_5) dX6_isAncestor_23)
  ·
    refine v_iconst C (z := 1) dX6_isAncestor_18 ?_
    refine v_goto C 23 dX6_isAncestor_19 (by decide) ?_
    exact (v_zret C hr hl () rfl (by decide) (by decide) rfl (bz_t c_5) dX6_isAncestor_23)
set_option maxHeartbeats 4000000 in
set_option maxRecDepth 100000 in
theorem kX6_isAncestor_a (l : Launch) (g : vG) {mm b1 b2 b3 b4 b5 b6 b7 b8 b9 b10 b11 b12 b13 b14 b15 b16 b17 : Nat} {kinds tgs first second vals qs : Nat → Int} {hds An qi qo Tm Nw Kw ris : Nat → Nat} {ni bc cm cn qc cd : Nat} {x : Int} {y : Int} (hI : MI vals ris cn kinds tgs first second qs hds An qi qo Tm ni bc cm qc) (hx : b31 x) (hqx : ¬ (0 ≤ x ∧ x < ((cm : Nat) : Int))) (hy : b31 y)  : mI l g yX6_isAncestor wsX6_isAncestor ({ frames := 3, cells := 0, slots := 0, locals := 65 }) [.ref (mm), .int (iI (x)), .int (iI (y))] (wMM g mm b1 b2 b3 b4 b5 b6 b7 b8 b9 b10 b11 b12 b13 b14 b15 b16 b17 kinds ni cm first second An An Tm Tm bc hds tgs qc qi qo qs cn vals Nw Nw Kw Kw cd ++ ([])) (fun _ : Unit => wMM g mm b1 b2 b3 b4 b5 b6 b7 b8 b9 b10 b11 b12 b13 b14 b15 b16 b17 kinds ni cm first second An An Tm Tm bc hds tgs qc qi qo qs cn vals Nw Nw Kw Kw 1 ++ ([])) (fun _ _ => True) 0 0 := by
  refine mI_of (cc := cX6_isAncestor) (maxL := 3) (ret := (some .boolean)) (own := RX6) (by decide) rfl rfl (Nat.le_of_ble_eq_true rfl) ?_
  intro p e s m args below meth c A C hr hl hin
  obtain ⟨hni, hbc1, hbc, hcm1, hcm, hcn1, hnm, hqc, hhd, htg, hf, hs, hfc, hsc, hAn, hTm, hao, hpal, hqb, hqi, htk, hkd⟩ := id hI
  have hx1 := hx.1
  have hx2 := hx.2
  have hy1 := hy.1
  have hy2 := hy.2
  refine v_aload_n C dX6_isAncestor_0 rfl 0 rfl ?_
  refine v_iload_n C dX6_isAncestor_1 rfl 1 rfl ?_
  refine v_iload_n C dX6_isAncestor_2 rfl 2 rfl ?_
  refine v_invVI C (As := [.int (iI (x)), .int (iI (y))]) (q0 := 0) (ci := 6) (kX6_isNoPair_a l g (mm := mm) (b1 := b1) (b2 := b2) (b3 := b3) (b4 := b4) (b5 := b5) (b6 := b6) (b7 := b7) (b8 := b8) (b9 := b9) (b10 := b10) (b11 := b11) (b12 := b12) (b13 := b13) (b14 := b14) (b15 := b15) (b16 := b16) (b17 := b17) (kinds := kinds) (tgs := tgs) (first := first) (second := second) (vals := vals) (qs := qs) (hds := hds) (An := An) (qi := qi) (qo := qo) (Tm := Tm) (Nw := Nw) (Kw := Kw) (ni := ni) (bc := bc) (cm := cm) (cn := cn) (qc := qc) (cd := cd) (ris := ris) (x := x) (y := y) ⟨by omega, by omega⟩ (by omega) (by omega) (by omega)) (cwV 2 C.2.2.2.2.1 gX6_isAncestor_X6_isNoPair rfl rfl rfl (by decide +kernel) ⟨Nat.le_of_ble_eq_true rfl, Nat.le_of_ble_eq_true rfl⟩) [wMM g mm b1 b2 b3 b4 b5 b6 b7 b8 b9 b10 b11 b12 b13 b14 b15 b16 b17 kinds ni cm first second An An Tm Tm bc hds tgs qc qi qo qs cn vals Nw Nw Kw Kw cd] [0] [] [] (fun _ => [wMM g mm b1 b2 b3 b4 b5 b6 b7 b8 b9 b10 b11 b12 b13 b14 b15 b16 b17 kinds ni cm first second An An Tm Tm bc hds tgs qc qi qo qs cn vals Nw Nw Kw Kw 1]) (fun _ => wMM g mm b1 b2 b3 b4 b5 b6 b7 b8 b9 b10 b11 b12 b13 b14 b15 b16 b17 kinds ni cm first second An An Tm Tm bc hds tgs qc qi qo qs cn vals Nw Nw Kw Kw 1 ++ ([])) rfl rfl rfl (fun _ => rfl) (fun _ => rfl) (fun _ => rfl) (fun _ => rfl) rfl rfl rfl rfl rfl (Nat.le_of_ble_eq_true rfl) dX6_isAncestor_3 ⟨by decide, by decide⟩ (fun r_2 _ h_1 => ?_)
  subst h_1
  refine v_ifz_ne C 22 dX6_isAncestor_6 (by decide) (fun _ => ?_) (fun h => nomatch h) 
  refine v_iconst C (z := 0) dX6_isAncestor_22 ?_
  exact (v_zret C hr hl () rfl (by decide) (by decide) rfl trivial dX6_isAncestor_23)
set_option maxHeartbeats 4000000 in
set_option maxRecDepth 100000 in
theorem kX6_isAncestor_b (l : Launch) (g : vG) {mm b1 b2 b3 b4 b5 b6 b7 b8 b9 b10 b11 b12 b13 b14 b15 b16 b17 : Nat} {kinds tgs first second vals qs : Nat → Int} {hds An qi qo Tm Nw Kw ris : Nat → Nat} {ni bc cm cn qc cd : Nat} {x0 : Nat} {y : Int} (hI : MI vals ris cn kinds tgs first second qs hds An qi qo Tm ni bc cm qc) (hx0 : x0 < cm) (hy : b31 y) (hqy : ¬ (0 ≤ y ∧ y < ((cm : Nat) : Int)))  : mI l g yX6_isAncestor wsX6_isAncestor ({ frames := 3, cells := 0, slots := 0, locals := 65 }) [.ref (mm), .int (iI ((x0 : Nat) : Int)), .int (iI (y))] (wMM g mm b1 b2 b3 b4 b5 b6 b7 b8 b9 b10 b11 b12 b13 b14 b15 b16 b17 kinds ni cm first second An An Tm Tm bc hds tgs qc qi qo qs cn vals Nw Nw Kw Kw cd ++ ([])) (fun _ : Unit => wMM g mm b1 b2 b3 b4 b5 b6 b7 b8 b9 b10 b11 b12 b13 b14 b15 b16 b17 kinds ni cm first second An An Tm Tm bc hds tgs qc qi qo qs cn vals Nw Nw Kw Kw 1 ++ ([])) (fun _ _ => True) 0 0 := by
  refine mI_of (cc := cX6_isAncestor) (maxL := 3) (ret := (some .boolean)) (own := RX6) (by decide) rfl rfl (Nat.le_of_ble_eq_true rfl) ?_
  intro p e s m args below meth c A C hr hl hin
  obtain ⟨hni, hbc1, hbc, hcm1, hcm, hcn1, hnm, hqc, hhd, htg, hf, hs, hfc, hsc, hAn, hTm, hao, hpal, hqb, hqi, htk, hkd⟩ := id hI
  have hy1 := hy.1
  have hy2 := hy.2
  refine v_aload_n C dX6_isAncestor_0 rfl 0 rfl ?_
  refine v_iload_n C dX6_isAncestor_1 rfl 1 rfl ?_
  refine v_iload_n C dX6_isAncestor_2 rfl 2 rfl ?_
  refine v_invVI C (As := [.int (iI ((x0 : Nat) : Int)), .int (iI (y))]) (q0 := 0) (ci := 6) (kX6_isNoPair_b l g (mm := mm) (b1 := b1) (b2 := b2) (b3 := b3) (b4 := b4) (b5 := b5) (b6 := b6) (b7 := b7) (b8 := b8) (b9 := b9) (b10 := b10) (b11 := b11) (b12 := b12) (b13 := b13) (b14 := b14) (b15 := b15) (b16 := b16) (b17 := b17) (kinds := kinds) (tgs := tgs) (first := first) (second := second) (vals := vals) (qs := qs) (hds := hds) (An := An) (qi := qi) (qo := qo) (Tm := Tm) (Nw := Nw) (Kw := Kw) (ni := ni) (bc := bc) (cm := cm) (cn := cn) (qc := qc) (cd := cd) (ris := ris) (i0 := x0) (y := y) (by omega) ⟨by omega, by omega⟩ (by omega) (by omega) (by omega)) (cwV 2 C.2.2.2.2.1 gX6_isAncestor_X6_isNoPair rfl rfl rfl (by decide +kernel) ⟨Nat.le_of_ble_eq_true rfl, Nat.le_of_ble_eq_true rfl⟩) [wMM g mm b1 b2 b3 b4 b5 b6 b7 b8 b9 b10 b11 b12 b13 b14 b15 b16 b17 kinds ni cm first second An An Tm Tm bc hds tgs qc qi qo qs cn vals Nw Nw Kw Kw cd] [0] [] [] (fun _ => [wMM g mm b1 b2 b3 b4 b5 b6 b7 b8 b9 b10 b11 b12 b13 b14 b15 b16 b17 kinds ni cm first second An An Tm Tm bc hds tgs qc qi qo qs cn vals Nw Nw Kw Kw 1]) (fun _ => wMM g mm b1 b2 b3 b4 b5 b6 b7 b8 b9 b10 b11 b12 b13 b14 b15 b16 b17 kinds ni cm first second An An Tm Tm bc hds tgs qc qi qo qs cn vals Nw Nw Kw Kw 1 ++ ([])) rfl rfl rfl (fun _ => rfl) (fun _ => rfl) (fun _ => rfl) (fun _ => rfl) rfl rfl rfl rfl rfl (Nat.le_of_ble_eq_true rfl) dX6_isAncestor_3 ⟨by decide, by decide⟩ (fun r_2 _ h_1 => ?_)
  subst h_1
  refine v_ifz_ne C 22 dX6_isAncestor_6 (by decide) (fun _ => ?_) (fun h => nomatch h) 
  refine v_iconst C (z := 0) dX6_isAncestor_22 ?_
  exact (v_zret C hr hl () rfl (by decide) (by decide) rfl trivial dX6_isAncestor_23)
set_option maxHeartbeats 4000000 in
set_option maxRecDepth 100000 in
theorem kX6_base_ok (l : Launch) (g : vG) {mm b1 b2 b3 b4 b5 b6 b7 b8 b9 b10 b11 b12 b13 b14 b15 b16 b17 : Nat} {kinds tgs first second vals qs : Nat → Int} {hds An qi qo Tm Nw Kw ris : Nat → Nat} {ni bc cm cn qc cd : Nat} {x0 : Nat} {y0 : Nat} (hI : MI vals ris cn kinds tgs first second qs hds An qi qo Tm ni bc cm qc) (hx0 : x0 < cm) (hy0 : y0 < cm)  : mI l g yX6_base wsX6_base ({ frames := 3, cells := 0, slots := 0, locals := 69 }) [.ref (mm), .int (iI ((x0 : Nat) : Int)), .int (iI ((y0 : Nat) : Int))] (wMM g mm b1 b2 b3 b4 b5 b6 b7 b8 b9 b10 b11 b12 b13 b14 b15 b16 b17 kinds ni cm first second An An Tm Tm bc hds tgs qc qi qo qs cn vals Nw Nw Kw Kw cd ++ ([])) (fun _ : Unit => wMM g mm b1 b2 b3 b4 b5 b6 b7 b8 b9 b10 b11 b12 b13 b14 b15 b16 b17 kinds ni cm first second An An Tm Tm bc hds tgs qc qi qo qs cn vals Nw Nw Kw Kw 0 ++ ([])) (fun v _ => v = iI ((gsh (An x0 &&& An y0) (min x0 y0) : Nat) : Int)) 0 0 := by
  refine mI_of (cc := cX6_base) (maxL := 3) (ret := (some .int)) (own := RX6) (by decide) rfl rfl (Nat.le_of_ble_eq_true rfl) ?_
  intro p e s m args below meth c A C hr hl hin
  obtain ⟨hni, hbc1, hbc, hcm1, hcm, hcn1, hnm, hqc, hhd, htg, hf, hs, hfc, hsc, hAn, hTm, hao, hpal, hqb, hqi, htk, hkd⟩ := id hI
  refine v_aload_n C dX6_base_0 rfl 0 rfl ?_
  refine v_iload_n C dX6_base_1 rfl 1 rfl ?_
  refine v_iload_n C dX6_base_2 rfl 2 rfl ?_
  refine v_invVI C (As := [.int (iI ((x0 : Nat) : Int)), .int (iI ((y0 : Nat) : Int))]) (q0 := 0) (ci := 6) (kX6_isNoPair_in l g (mm := mm) (b1 := b1) (b2 := b2) (b3 := b3) (b4 := b4) (b5 := b5) (b6 := b6) (b7 := b7) (b8 := b8) (b9 := b9) (b10 := b10) (b11 := b11) (b12 := b12) (b13 := b13) (b14 := b14) (b15 := b15) (b16 := b16) (b17 := b17) (kinds := kinds) (tgs := tgs) (first := first) (second := second) (vals := vals) (qs := qs) (hds := hds) (An := An) (qi := qi) (qo := qo) (Tm := Tm) (Nw := Nw) (Kw := Kw) (ni := ni) (bc := bc) (cm := cm) (cn := cn) (qc := qc) (cd := cd) (ris := ris) (i0 := x0) (j0 := y0) (by omega) (by omega) (by omega) (by omega)) (cwV 2 C.2.2.2.2.1 gX6_base_X6_isNoPair rfl rfl rfl (by decide +kernel) ⟨Nat.le_of_ble_eq_true rfl, Nat.le_of_ble_eq_true rfl⟩) [wMM g mm b1 b2 b3 b4 b5 b6 b7 b8 b9 b10 b11 b12 b13 b14 b15 b16 b17 kinds ni cm first second An An Tm Tm bc hds tgs qc qi qo qs cn vals Nw Nw Kw Kw cd] [0] [] [] (fun _ => [wMM g mm b1 b2 b3 b4 b5 b6 b7 b8 b9 b10 b11 b12 b13 b14 b15 b16 b17 kinds ni cm first second An An Tm Tm bc hds tgs qc qi qo qs cn vals Nw Nw Kw Kw 0]) (fun _ => wMM g mm b1 b2 b3 b4 b5 b6 b7 b8 b9 b10 b11 b12 b13 b14 b15 b16 b17 kinds ni cm first second An An Tm Tm bc hds tgs qc qi qo qs cn vals Nw Nw Kw Kw 0 ++ ([])) rfl rfl rfl (fun _ => rfl) (fun _ => rfl) (fun _ => rfl) (fun _ => rfl) rfl rfl rfl rfl rfl (Nat.le_of_ble_eq_true rfl) dX6_base_3 ⟨by decide, by decide⟩ (fun r_2 _ h_1 => ?_)
  subst h_1
  refine v_ifz_eq C 13 dX6_base_6 (by decide) (fun _ => ?_) (fun h => nomatch h) 
  refine v_aload_n C dX6_base_13 rfl 0 rfl ?_
  refine v_iload_n C dX6_base_14 rfl 1 rfl ?_
  refine v_iload_n C dX6_base_15 rfl 2 rfl ?_
  refine v_invVI C (As := [.int (iI ((x0 : Nat) : Int)), .int (iI ((y0 : Nat) : Int))]) (q0 := 0) (ci := 6) (kX6_baseOf l g (mm := mm) (b1 := b1) (b2 := b2) (b3 := b3) (b4 := b4) (b5 := b5) (b6 := b6) (b7 := b7) (b8 := b8) (b9 := b9) (b10 := b10) (b11 := b11) (b12 := b12) (b13 := b13) (b14 := b14) (b15 := b15) (b16 := b16) (b17 := b17) (kinds := kinds) (tgs := tgs) (first := first) (second := second) (vals := vals) (qs := qs) (hds := hds) (An := An) (qi := qi) (qo := qo) (Tm := Tm) (Nw := Nw) (Kw := Kw) (ni := ni) (bc := bc) (cm := cm) (cn := cn) (qc := qc) (cd := 0) (ris := ris) (c0 := x0) (d0 := y0) hI (by omega) (by omega)) (cwV 2 C.2.2.2.2.1 gX6_base_X6_baseOf rfl rfl rfl (by decide +kernel) ⟨Nat.le_of_ble_eq_true rfl, Nat.le_of_ble_eq_true rfl⟩) [wMM g mm b1 b2 b3 b4 b5 b6 b7 b8 b9 b10 b11 b12 b13 b14 b15 b16 b17 kinds ni cm first second An An Tm Tm bc hds tgs qc qi qo qs cn vals Nw Nw Kw Kw 0] [0] [] [] (fun _ => [wMM g mm b1 b2 b3 b4 b5 b6 b7 b8 b9 b10 b11 b12 b13 b14 b15 b16 b17 kinds ni cm first second An An Tm Tm bc hds tgs qc qi qo qs cn vals Nw Nw Kw Kw 0]) (fun _ => wMM g mm b1 b2 b3 b4 b5 b6 b7 b8 b9 b10 b11 b12 b13 b14 b15 b16 b17 kinds ni cm first second An An Tm Tm bc hds tgs qc qi qo qs cn vals Nw Nw Kw Kw 0 ++ ([])) rfl rfl rfl (fun _ => rfl) (fun _ => rfl) (fun _ => rfl) (fun _ => rfl) rfl rfl rfl rfl rfl (Nat.le_of_ble_eq_true rfl) dX6_base_16 ⟨by decide, by decide⟩ (fun r_4 _ h_3 => ?_)
  subst h_3
  exact (v_iret C hr hl () (by decide) (by decide) rfl rfl dX6_base_19)
set_option maxHeartbeats 4000000 in
set_option maxRecDepth 100000 in
theorem kX6_base_a (l : Launch) (g : vG) {mm b1 b2 b3 b4 b5 b6 b7 b8 b9 b10 b11 b12 b13 b14 b15 b16 b17 : Nat} {kinds tgs first second vals qs : Nat → Int} {hds An qi qo Tm Nw Kw ris : Nat → Nat} {ni bc cm cn qc cd : Nat} {x : Int} {y : Int} (hI : MI vals ris cn kinds tgs first second qs hds An qi qo Tm ni bc cm qc) (hx : b31 x) (hqx : ¬ (0 ≤ x ∧ x < ((cm : Nat) : Int))) (hy : b31 y)  : mI l g yX6_base wsX6_base ({ frames := 3, cells := 0, slots := 0, locals := 65 }) [.ref (mm), .int (iI (x)), .int (iI (y))] (wMM g mm b1 b2 b3 b4 b5 b6 b7 b8 b9 b10 b11 b12 b13 b14 b15 b16 b17 kinds ni cm first second An An Tm Tm bc hds tgs qc qi qo qs cn vals Nw Nw Kw Kw cd ++ ([])) (fun _ : Unit => wMM g mm b1 b2 b3 b4 b5 b6 b7 b8 b9 b10 b11 b12 b13 b14 b15 b16 b17 kinds ni cm first second An An Tm Tm bc hds tgs qc qi qo qs cn vals Nw Nw Kw Kw 1 ++ ([])) (fun _ _ => True) 0 0 := by
  refine mI_of (cc := cX6_base) (maxL := 3) (ret := (some .int)) (own := RX6) (by decide) rfl rfl (Nat.le_of_ble_eq_true rfl) ?_
  intro p e s m args below meth c A C hr hl hin
  obtain ⟨hni, hbc1, hbc, hcm1, hcm, hcn1, hnm, hqc, hhd, htg, hf, hs, hfc, hsc, hAn, hTm, hao, hpal, hqb, hqi, htk, hkd⟩ := id hI
  have hx1 := hx.1
  have hx2 := hx.2
  have hy1 := hy.1
  have hy2 := hy.2
  refine v_aload_n C dX6_base_0 rfl 0 rfl ?_
  refine v_iload_n C dX6_base_1 rfl 1 rfl ?_
  refine v_iload_n C dX6_base_2 rfl 2 rfl ?_
  refine v_invVI C (As := [.int (iI (x)), .int (iI (y))]) (q0 := 0) (ci := 6) (kX6_isNoPair_a l g (mm := mm) (b1 := b1) (b2 := b2) (b3 := b3) (b4 := b4) (b5 := b5) (b6 := b6) (b7 := b7) (b8 := b8) (b9 := b9) (b10 := b10) (b11 := b11) (b12 := b12) (b13 := b13) (b14 := b14) (b15 := b15) (b16 := b16) (b17 := b17) (kinds := kinds) (tgs := tgs) (first := first) (second := second) (vals := vals) (qs := qs) (hds := hds) (An := An) (qi := qi) (qo := qo) (Tm := Tm) (Nw := Nw) (Kw := Kw) (ni := ni) (bc := bc) (cm := cm) (cn := cn) (qc := qc) (cd := cd) (ris := ris) (x := x) (y := y) ⟨by omega, by omega⟩ (by omega) (by omega) (by omega)) (cwV 2 C.2.2.2.2.1 gX6_base_X6_isNoPair rfl rfl rfl (by decide +kernel) ⟨Nat.le_of_ble_eq_true rfl, Nat.le_of_ble_eq_true rfl⟩) [wMM g mm b1 b2 b3 b4 b5 b6 b7 b8 b9 b10 b11 b12 b13 b14 b15 b16 b17 kinds ni cm first second An An Tm Tm bc hds tgs qc qi qo qs cn vals Nw Nw Kw Kw cd] [0] [] [] (fun _ => [wMM g mm b1 b2 b3 b4 b5 b6 b7 b8 b9 b10 b11 b12 b13 b14 b15 b16 b17 kinds ni cm first second An An Tm Tm bc hds tgs qc qi qo qs cn vals Nw Nw Kw Kw 1]) (fun _ => wMM g mm b1 b2 b3 b4 b5 b6 b7 b8 b9 b10 b11 b12 b13 b14 b15 b16 b17 kinds ni cm first second An An Tm Tm bc hds tgs qc qi qo qs cn vals Nw Nw Kw Kw 1 ++ ([])) rfl rfl rfl (fun _ => rfl) (fun _ => rfl) (fun _ => rfl) (fun _ => rfl) rfl rfl rfl rfl rfl (Nat.le_of_ble_eq_true rfl) dX6_base_3 ⟨by decide, by decide⟩ (fun r_2 _ h_1 => ?_)
  subst h_1
  refine v_ifz_eq C 13 dX6_base_6 (by decide) (fun h => nomatch h) (fun _ => ?_)
  refine v_iconst C (z := 0) dX6_base_9 ?_
  refine v_goto C 19 dX6_base_10 (by decide) ?_
  exact (v_iret C hr hl () (by decide) (by decide) rfl trivial dX6_base_19)
set_option maxHeartbeats 4000000 in
set_option maxRecDepth 100000 in
theorem kX6_base_b (l : Launch) (g : vG) {mm b1 b2 b3 b4 b5 b6 b7 b8 b9 b10 b11 b12 b13 b14 b15 b16 b17 : Nat} {kinds tgs first second vals qs : Nat → Int} {hds An qi qo Tm Nw Kw ris : Nat → Nat} {ni bc cm cn qc cd : Nat} {x0 : Nat} {y : Int} (hI : MI vals ris cn kinds tgs first second qs hds An qi qo Tm ni bc cm qc) (hx0 : x0 < cm) (hy : b31 y) (hqy : ¬ (0 ≤ y ∧ y < ((cm : Nat) : Int)))  : mI l g yX6_base wsX6_base ({ frames := 3, cells := 0, slots := 0, locals := 65 }) [.ref (mm), .int (iI ((x0 : Nat) : Int)), .int (iI (y))] (wMM g mm b1 b2 b3 b4 b5 b6 b7 b8 b9 b10 b11 b12 b13 b14 b15 b16 b17 kinds ni cm first second An An Tm Tm bc hds tgs qc qi qo qs cn vals Nw Nw Kw Kw cd ++ ([])) (fun _ : Unit => wMM g mm b1 b2 b3 b4 b5 b6 b7 b8 b9 b10 b11 b12 b13 b14 b15 b16 b17 kinds ni cm first second An An Tm Tm bc hds tgs qc qi qo qs cn vals Nw Nw Kw Kw 1 ++ ([])) (fun _ _ => True) 0 0 := by
  refine mI_of (cc := cX6_base) (maxL := 3) (ret := (some .int)) (own := RX6) (by decide) rfl rfl (Nat.le_of_ble_eq_true rfl) ?_
  intro p e s m args below meth c A C hr hl hin
  obtain ⟨hni, hbc1, hbc, hcm1, hcm, hcn1, hnm, hqc, hhd, htg, hf, hs, hfc, hsc, hAn, hTm, hao, hpal, hqb, hqi, htk, hkd⟩ := id hI
  have hy1 := hy.1
  have hy2 := hy.2
  refine v_aload_n C dX6_base_0 rfl 0 rfl ?_
  refine v_iload_n C dX6_base_1 rfl 1 rfl ?_
  refine v_iload_n C dX6_base_2 rfl 2 rfl ?_
  refine v_invVI C (As := [.int (iI ((x0 : Nat) : Int)), .int (iI (y))]) (q0 := 0) (ci := 6) (kX6_isNoPair_b l g (mm := mm) (b1 := b1) (b2 := b2) (b3 := b3) (b4 := b4) (b5 := b5) (b6 := b6) (b7 := b7) (b8 := b8) (b9 := b9) (b10 := b10) (b11 := b11) (b12 := b12) (b13 := b13) (b14 := b14) (b15 := b15) (b16 := b16) (b17 := b17) (kinds := kinds) (tgs := tgs) (first := first) (second := second) (vals := vals) (qs := qs) (hds := hds) (An := An) (qi := qi) (qo := qo) (Tm := Tm) (Nw := Nw) (Kw := Kw) (ni := ni) (bc := bc) (cm := cm) (cn := cn) (qc := qc) (cd := cd) (ris := ris) (i0 := x0) (y := y) (by omega) ⟨by omega, by omega⟩ (by omega) (by omega) (by omega)) (cwV 2 C.2.2.2.2.1 gX6_base_X6_isNoPair rfl rfl rfl (by decide +kernel) ⟨Nat.le_of_ble_eq_true rfl, Nat.le_of_ble_eq_true rfl⟩) [wMM g mm b1 b2 b3 b4 b5 b6 b7 b8 b9 b10 b11 b12 b13 b14 b15 b16 b17 kinds ni cm first second An An Tm Tm bc hds tgs qc qi qo qs cn vals Nw Nw Kw Kw cd] [0] [] [] (fun _ => [wMM g mm b1 b2 b3 b4 b5 b6 b7 b8 b9 b10 b11 b12 b13 b14 b15 b16 b17 kinds ni cm first second An An Tm Tm bc hds tgs qc qi qo qs cn vals Nw Nw Kw Kw 1]) (fun _ => wMM g mm b1 b2 b3 b4 b5 b6 b7 b8 b9 b10 b11 b12 b13 b14 b15 b16 b17 kinds ni cm first second An An Tm Tm bc hds tgs qc qi qo qs cn vals Nw Nw Kw Kw 1 ++ ([])) rfl rfl rfl (fun _ => rfl) (fun _ => rfl) (fun _ => rfl) (fun _ => rfl) rfl rfl rfl rfl rfl (Nat.le_of_ble_eq_true rfl) dX6_base_3 ⟨by decide, by decide⟩ (fun r_2 _ h_1 => ?_)
  subst h_1
  refine v_ifz_eq C 13 dX6_base_6 (by decide) (fun h => nomatch h) (fun _ => ?_)
  refine v_iconst C (z := 0) dX6_base_9 ?_
  refine v_goto C 19 dX6_base_10 (by decide) ?_
  exact (v_iret C hr hl () (by decide) (by decide) rfl trivial dX6_base_19)
set_option maxHeartbeats 4000000 in
set_option maxRecDepth 100000 in
theorem kX6_sides_ok (l : Launch) (g : vG) {mm b1 b2 b3 b4 b5 b6 b7 b8 b9 b10 b11 b12 b13 b14 b15 b16 b17 : Nat} {kinds tgs first second vals qs : Nat → Int} {hds An qi qo Tm Nw Kw ris : Nat → Nat} {ni bc cm cn qc cd : Nat} {x0 : Nat} {y0 : Nat} (hI : MI vals ris cn kinds tgs first second qs hds An qi qo Tm ni bc cm qc) (hx0 : x0 < cm) (hy0 : y0 < ni)  : mI l g yX6_sides wsX6_sides ({ frames := 3, cells := 0, slots := 0, locals := 72 }) [.ref (mm), .int (iI ((x0 : Nat) : Int)), .int (iI ((y0 : Nat) : Int))] (wMM g mm b1 b2 b3 b4 b5 b6 b7 b8 b9 b10 b11 b12 b13 b14 b15 b16 b17 kinds ni cm first second An An Tm Tm bc hds tgs qc qi qo qs cn vals Nw Nw Kw Kw cd ++ ([])) (fun _ : Unit => wMM g mm b1 b2 b3 b4 b5 b6 b7 b8 b9 b10 b11 b12 b13 b14 b15 b16 b17 kinds ni cm first second An An Tm Tm bc hds tgs qc qi qo qs cn vals Nw Nw Kw Kw 0 ++ ([])) (fun v _ => v = iI ((cnt (Tm (12 * x0 + y0)) : Nat) : Int)) 0 0 := by
  refine mI_of (cc := cX6_sides) (maxL := 3) (ret := (some .int)) (own := RX6) (by decide) rfl rfl (Nat.le_of_ble_eq_true rfl) ?_
  intro p e s m args below meth c A C hr hl hin
  obtain ⟨hni, hbc1, hbc, hcm1, hcm, hcn1, hnm, hqc, hhd, htg, hf, hs, hfc, hsc, hAn, hTm, hao, hpal, hqb, hqi, htk, hkd⟩ := id hI
  refine v_aload_n C dX6_sides_0 rfl 0 rfl ?_
  refine v_iload_n C dX6_sides_1 rfl 1 rfl ?_
  refine v_iload_n C dX6_sides_2 rfl 2 rfl ?_
  refine v_invVI C (As := [.int (iI ((x0 : Nat) : Int)), .int (iI ((y0 : Nat) : Int))]) (q0 := 0) (ci := 6) (kX6_isNoPlace_in l g (mm := mm) (b1 := b1) (b2 := b2) (b3 := b3) (b4 := b4) (b5 := b5) (b6 := b6) (b7 := b7) (b8 := b8) (b9 := b9) (b10 := b10) (b11 := b11) (b12 := b12) (b13 := b13) (b14 := b14) (b15 := b15) (b16 := b16) (b17 := b17) (kinds := kinds) (tgs := tgs) (first := first) (second := second) (vals := vals) (qs := qs) (hds := hds) (An := An) (qi := qi) (qo := qo) (Tm := Tm) (Nw := Nw) (Kw := Kw) (ni := ni) (bc := bc) (cm := cm) (cn := cn) (qc := qc) (cd := cd) (ris := ris) (i0 := x0) (j0 := y0) (by omega) (by omega) (by omega) (by omega)) (cwV 2 C.2.2.2.2.1 gX6_sides_X6_isNoPlace rfl rfl rfl (by decide +kernel) ⟨Nat.le_of_ble_eq_true rfl, Nat.le_of_ble_eq_true rfl⟩) [wMM g mm b1 b2 b3 b4 b5 b6 b7 b8 b9 b10 b11 b12 b13 b14 b15 b16 b17 kinds ni cm first second An An Tm Tm bc hds tgs qc qi qo qs cn vals Nw Nw Kw Kw cd] [0] [] [] (fun _ => [wMM g mm b1 b2 b3 b4 b5 b6 b7 b8 b9 b10 b11 b12 b13 b14 b15 b16 b17 kinds ni cm first second An An Tm Tm bc hds tgs qc qi qo qs cn vals Nw Nw Kw Kw 0]) (fun _ => wMM g mm b1 b2 b3 b4 b5 b6 b7 b8 b9 b10 b11 b12 b13 b14 b15 b16 b17 kinds ni cm first second An An Tm Tm bc hds tgs qc qi qo qs cn vals Nw Nw Kw Kw 0 ++ ([])) rfl rfl rfl (fun _ => rfl) (fun _ => rfl) (fun _ => rfl) (fun _ => rfl) rfl rfl rfl rfl rfl (Nat.le_of_ble_eq_true rfl) dX6_sides_3 ⟨by decide, by decide⟩ (fun r_2 _ h_1 => ?_)
  subst h_1
  refine v_ifz_eq C 13 dX6_sides_6 (by decide) (fun _ => ?_) (fun h => nomatch h) 
  refine v_aload_n C dX6_sides_13 rfl 0 rfl ?_
  refine v_iload_n C dX6_sides_14 rfl 1 rfl ?_
  refine v_iload_n C dX6_sides_15 rfl 2 rfl ?_
  refine v_invVI C (As := [.int (iI ((x0 : Nat) : Int)), .int (iI ((y0 : Nat) : Int))]) (q0 := 0) (ci := 6) (kX6_sidesIn l g (mm := mm) (b1 := b1) (b2 := b2) (b3 := b3) (b4 := b4) (b5 := b5) (b6 := b6) (b7 := b7) (b8 := b8) (b9 := b9) (b10 := b10) (b11 := b11) (b12 := b12) (b13 := b13) (b14 := b14) (b15 := b15) (b16 := b16) (b17 := b17) (kinds := kinds) (tgs := tgs) (first := first) (second := second) (vals := vals) (qs := qs) (hds := hds) (An := An) (qi := qi) (qo := qo) (Tm := Tm) (Nw := Nw) (Kw := Kw) (ni := ni) (bc := bc) (cm := cm) (cn := cn) (qc := qc) (cd := 0) (ris := ris) (c0 := x0) (i0 := y0) (by omega) (by omega) (by omega) (htk.lt (by omega) (by omega))) (cwV 2 C.2.2.2.2.1 gX6_sides_X6_sidesIn rfl rfl rfl (by decide +kernel) ⟨Nat.le_of_ble_eq_true rfl, Nat.le_of_ble_eq_true rfl⟩) [wMM g mm b1 b2 b3 b4 b5 b6 b7 b8 b9 b10 b11 b12 b13 b14 b15 b16 b17 kinds ni cm first second An An Tm Tm bc hds tgs qc qi qo qs cn vals Nw Nw Kw Kw 0] [0] [] [] (fun _ => [wMM g mm b1 b2 b3 b4 b5 b6 b7 b8 b9 b10 b11 b12 b13 b14 b15 b16 b17 kinds ni cm first second An An Tm Tm bc hds tgs qc qi qo qs cn vals Nw Nw Kw Kw 0]) (fun _ => wMM g mm b1 b2 b3 b4 b5 b6 b7 b8 b9 b10 b11 b12 b13 b14 b15 b16 b17 kinds ni cm first second An An Tm Tm bc hds tgs qc qi qo qs cn vals Nw Nw Kw Kw 0 ++ ([])) rfl rfl rfl (fun _ => rfl) (fun _ => rfl) (fun _ => rfl) (fun _ => rfl) rfl rfl rfl rfl rfl (Nat.le_of_ble_eq_true rfl) dX6_sides_16 ⟨by decide, by decide⟩ (fun r_4 _ h_3 => ?_)
  subst h_3
  exact (v_iret C hr hl () (by decide) (by decide) rfl rfl dX6_sides_19)
set_option maxHeartbeats 4000000 in
set_option maxRecDepth 100000 in
theorem kX6_sides_a (l : Launch) (g : vG) {mm b1 b2 b3 b4 b5 b6 b7 b8 b9 b10 b11 b12 b13 b14 b15 b16 b17 : Nat} {kinds tgs first second vals qs : Nat → Int} {hds An qi qo Tm Nw Kw ris : Nat → Nat} {ni bc cm cn qc cd : Nat} {x : Int} {y : Int} (hI : MI vals ris cn kinds tgs first second qs hds An qi qo Tm ni bc cm qc) (hx : b31 x) (hqx : ¬ (0 ≤ x ∧ x < ((cm : Nat) : Int))) (hy : b31 y)  : mI l g yX6_sides wsX6_sides ({ frames := 3, cells := 0, slots := 0, locals := 65 }) [.ref (mm), .int (iI (x)), .int (iI (y))] (wMM g mm b1 b2 b3 b4 b5 b6 b7 b8 b9 b10 b11 b12 b13 b14 b15 b16 b17 kinds ni cm first second An An Tm Tm bc hds tgs qc qi qo qs cn vals Nw Nw Kw Kw cd ++ ([])) (fun _ : Unit => wMM g mm b1 b2 b3 b4 b5 b6 b7 b8 b9 b10 b11 b12 b13 b14 b15 b16 b17 kinds ni cm first second An An Tm Tm bc hds tgs qc qi qo qs cn vals Nw Nw Kw Kw 1 ++ ([])) (fun _ _ => True) 0 0 := by
  refine mI_of (cc := cX6_sides) (maxL := 3) (ret := (some .int)) (own := RX6) (by decide) rfl rfl (Nat.le_of_ble_eq_true rfl) ?_
  intro p e s m args below meth c A C hr hl hin
  obtain ⟨hni, hbc1, hbc, hcm1, hcm, hcn1, hnm, hqc, hhd, htg, hf, hs, hfc, hsc, hAn, hTm, hao, hpal, hqb, hqi, htk, hkd⟩ := id hI
  have hx1 := hx.1
  have hx2 := hx.2
  have hy1 := hy.1
  have hy2 := hy.2
  refine v_aload_n C dX6_sides_0 rfl 0 rfl ?_
  refine v_iload_n C dX6_sides_1 rfl 1 rfl ?_
  refine v_iload_n C dX6_sides_2 rfl 2 rfl ?_
  refine v_invVI C (As := [.int (iI (x)), .int (iI (y))]) (q0 := 0) (ci := 6) (kX6_isNoPlace_a l g (mm := mm) (b1 := b1) (b2 := b2) (b3 := b3) (b4 := b4) (b5 := b5) (b6 := b6) (b7 := b7) (b8 := b8) (b9 := b9) (b10 := b10) (b11 := b11) (b12 := b12) (b13 := b13) (b14 := b14) (b15 := b15) (b16 := b16) (b17 := b17) (kinds := kinds) (tgs := tgs) (first := first) (second := second) (vals := vals) (qs := qs) (hds := hds) (An := An) (qi := qi) (qo := qo) (Tm := Tm) (Nw := Nw) (Kw := Kw) (ni := ni) (bc := bc) (cm := cm) (cn := cn) (qc := qc) (cd := cd) (ris := ris) (x := x) (y := y) ⟨by omega, by omega⟩ (by omega) (by omega) (by omega)) (cwV 2 C.2.2.2.2.1 gX6_sides_X6_isNoPlace rfl rfl rfl (by decide +kernel) ⟨Nat.le_of_ble_eq_true rfl, Nat.le_of_ble_eq_true rfl⟩) [wMM g mm b1 b2 b3 b4 b5 b6 b7 b8 b9 b10 b11 b12 b13 b14 b15 b16 b17 kinds ni cm first second An An Tm Tm bc hds tgs qc qi qo qs cn vals Nw Nw Kw Kw cd] [0] [] [] (fun _ => [wMM g mm b1 b2 b3 b4 b5 b6 b7 b8 b9 b10 b11 b12 b13 b14 b15 b16 b17 kinds ni cm first second An An Tm Tm bc hds tgs qc qi qo qs cn vals Nw Nw Kw Kw 1]) (fun _ => wMM g mm b1 b2 b3 b4 b5 b6 b7 b8 b9 b10 b11 b12 b13 b14 b15 b16 b17 kinds ni cm first second An An Tm Tm bc hds tgs qc qi qo qs cn vals Nw Nw Kw Kw 1 ++ ([])) rfl rfl rfl (fun _ => rfl) (fun _ => rfl) (fun _ => rfl) (fun _ => rfl) rfl rfl rfl rfl rfl (Nat.le_of_ble_eq_true rfl) dX6_sides_3 ⟨by decide, by decide⟩ (fun r_2 _ h_1 => ?_)
  subst h_1
  refine v_ifz_eq C 13 dX6_sides_6 (by decide) (fun h => nomatch h) (fun _ => ?_)
  refine v_iconst C (z := 0) dX6_sides_9 ?_
  refine v_goto C 19 dX6_sides_10 (by decide) ?_
  exact (v_iret C hr hl () (by decide) (by decide) rfl trivial dX6_sides_19)
set_option maxHeartbeats 4000000 in
set_option maxRecDepth 100000 in
theorem kX6_sides_b (l : Launch) (g : vG) {mm b1 b2 b3 b4 b5 b6 b7 b8 b9 b10 b11 b12 b13 b14 b15 b16 b17 : Nat} {kinds tgs first second vals qs : Nat → Int} {hds An qi qo Tm Nw Kw ris : Nat → Nat} {ni bc cm cn qc cd : Nat} {x0 : Nat} {y : Int} (hI : MI vals ris cn kinds tgs first second qs hds An qi qo Tm ni bc cm qc) (hx0 : x0 < cm) (hy : b31 y) (hqy : ¬ (0 ≤ y ∧ y < ((ni : Nat) : Int)))  : mI l g yX6_sides wsX6_sides ({ frames := 3, cells := 0, slots := 0, locals := 65 }) [.ref (mm), .int (iI ((x0 : Nat) : Int)), .int (iI (y))] (wMM g mm b1 b2 b3 b4 b5 b6 b7 b8 b9 b10 b11 b12 b13 b14 b15 b16 b17 kinds ni cm first second An An Tm Tm bc hds tgs qc qi qo qs cn vals Nw Nw Kw Kw cd ++ ([])) (fun _ : Unit => wMM g mm b1 b2 b3 b4 b5 b6 b7 b8 b9 b10 b11 b12 b13 b14 b15 b16 b17 kinds ni cm first second An An Tm Tm bc hds tgs qc qi qo qs cn vals Nw Nw Kw Kw 1 ++ ([])) (fun _ _ => True) 0 0 := by
  refine mI_of (cc := cX6_sides) (maxL := 3) (ret := (some .int)) (own := RX6) (by decide) rfl rfl (Nat.le_of_ble_eq_true rfl) ?_
  intro p e s m args below meth c A C hr hl hin
  obtain ⟨hni, hbc1, hbc, hcm1, hcm, hcn1, hnm, hqc, hhd, htg, hf, hs, hfc, hsc, hAn, hTm, hao, hpal, hqb, hqi, htk, hkd⟩ := id hI
  have hy1 := hy.1
  have hy2 := hy.2
  refine v_aload_n C dX6_sides_0 rfl 0 rfl ?_
  refine v_iload_n C dX6_sides_1 rfl 1 rfl ?_
  refine v_iload_n C dX6_sides_2 rfl 2 rfl ?_
  refine v_invVI C (As := [.int (iI ((x0 : Nat) : Int)), .int (iI (y))]) (q0 := 0) (ci := 6) (kX6_isNoPlace_b l g (mm := mm) (b1 := b1) (b2 := b2) (b3 := b3) (b4 := b4) (b5 := b5) (b6 := b6) (b7 := b7) (b8 := b8) (b9 := b9) (b10 := b10) (b11 := b11) (b12 := b12) (b13 := b13) (b14 := b14) (b15 := b15) (b16 := b16) (b17 := b17) (kinds := kinds) (tgs := tgs) (first := first) (second := second) (vals := vals) (qs := qs) (hds := hds) (An := An) (qi := qi) (qo := qo) (Tm := Tm) (Nw := Nw) (Kw := Kw) (ni := ni) (bc := bc) (cm := cm) (cn := cn) (qc := qc) (cd := cd) (ris := ris) (i0 := x0) (y := y) (by omega) ⟨by omega, by omega⟩ (by omega) (by omega) (by omega)) (cwV 2 C.2.2.2.2.1 gX6_sides_X6_isNoPlace rfl rfl rfl (by decide +kernel) ⟨Nat.le_of_ble_eq_true rfl, Nat.le_of_ble_eq_true rfl⟩) [wMM g mm b1 b2 b3 b4 b5 b6 b7 b8 b9 b10 b11 b12 b13 b14 b15 b16 b17 kinds ni cm first second An An Tm Tm bc hds tgs qc qi qo qs cn vals Nw Nw Kw Kw cd] [0] [] [] (fun _ => [wMM g mm b1 b2 b3 b4 b5 b6 b7 b8 b9 b10 b11 b12 b13 b14 b15 b16 b17 kinds ni cm first second An An Tm Tm bc hds tgs qc qi qo qs cn vals Nw Nw Kw Kw 1]) (fun _ => wMM g mm b1 b2 b3 b4 b5 b6 b7 b8 b9 b10 b11 b12 b13 b14 b15 b16 b17 kinds ni cm first second An An Tm Tm bc hds tgs qc qi qo qs cn vals Nw Nw Kw Kw 1 ++ ([])) rfl rfl rfl (fun _ => rfl) (fun _ => rfl) (fun _ => rfl) (fun _ => rfl) rfl rfl rfl rfl rfl (Nat.le_of_ble_eq_true rfl) dX6_sides_3 ⟨by decide, by decide⟩ (fun r_2 _ h_1 => ?_)
  subst h_1
  refine v_ifz_eq C 13 dX6_sides_6 (by decide) (fun h => nomatch h) (fun _ => ?_)
  refine v_iconst C (z := 0) dX6_sides_9 ?_
  refine v_goto C 19 dX6_sides_10 (by decide) ?_
  exact (v_iret C hr hl () (by decide) (by decide) rfl trivial dX6_sides_19)
theorem inX6_asked_6 : ∀ w ∈ u_ws RX6 TX6 23, w ∈ wsX6_asked := by decide +kernel
theorem lkX6_asked_58 : Cond.fieldLink RX6 58 "MergeAtelierModel" "values" "[I" ∈ wsX6_asked := by decide +kernel
theorem lkX6_asked_31 : Cond.fieldLink RX6 31 "MergeAtelierModel" "low" "[J" ∈ wsX6_asked := by decide +kernel
theorem lkX6_asked_34 : Cond.fieldLink RX6 34 "MergeAtelierModel" "high" "[J" ∈ wsX6_asked := by decide +kernel
set_option maxHeartbeats 4000000 in
set_option maxRecDepth 100000 in
theorem kX6_asked_ok (l : Launch) (g : vG) {mm b1 b2 b3 b4 b5 b6 b7 b8 b9 b10 b11 b12 b13 b14 b15 b16 b17 : Nat} {kinds tgs first second vals qs : Nat → Int} {hds An qi qo Tm Nw Kw ris : Nat → Nat} {ni bc cm cn qc cd : Nat} {x0 : Nat} {y0 : Nat} {z : Int} (hI : MI vals ris cn kinds tgs first second qs hds An qi qo Tm ni bc cm qc) (hx0 : x0 < cm) (hy0 : y0 < ni) (hz : b31 z) (hz3 : 0 ≤ z) (hz4 : z < ((cnt (Tm (12 * x0 + y0)) : Nat) : Int)) : mI l g yX6_asked wsX6_asked ({ frames := 3, cells := 0, slots := 0, locals := 72 }) [.ref (mm), .int (iI ((x0 : Nat) : Int)), .int (iI ((y0 : Nat) : Int)), .int (iI (z))] (wMM g mm b1 b2 b3 b4 b5 b6 b7 b8 b9 b10 b11 b12 b13 b14 b15 b16 b17 kinds ni cm first second An An Tm Tm bc hds tgs qc qi qo qs cn vals Nw Nw Kw Kw cd ++ ([])) (fun _ : Unit => wMM g mm b1 b2 b3 b4 b5 b6 b7 b8 b9 b10 b11 b12 b13 b14 b15 b16 b17 kinds ni cm first second An An Tm Tm bc hds tgs qc qi qo qs cn vals Nw Nw Kw Kw 0 ++ ([])) (fun v _ => v = iI (vals (sIx (fun j => (Tm (12 * x0 + y0)).testBit (ris j)) ris z cn).toNat)) 0 0 := by
  refine mI_of (cc := cX6_asked) (maxL := 4) (ret := (some .int)) (own := RX6) (by decide) rfl rfl (Nat.le_of_ble_eq_true rfl) ?_
  intro p e s m args below meth c A C hr hl hin
  obtain ⟨hni, hbc1, hbc, hcm1, hcm, hcn1, hnm, hqc, hhd, htg, hf, hs, hfc, hsc, hAn, hTm, hao, hpal, hqb, hqi, htk, hkd⟩ := id hI
  have hz1 := hz.1
  have hz2 := hz.2
  have hS9 := htk _ hx0 y0 hy0
  have hcb := cnt_le (Tm (12 * x0 + y0))
  refine v_aload_n C dX6_asked_0 rfl 0 rfl ?_
  refine v_iload_n C dX6_asked_1 rfl 1 rfl ?_
  refine v_iload_n C dX6_asked_2 rfl 2 rfl ?_
  refine v_invVI C (As := [.int (iI ((x0 : Nat) : Int)), .int (iI ((y0 : Nat) : Int))]) (q0 := 0) (ci := 6) (kX6_isNoPlace_in l g (mm := mm) (b1 := b1) (b2 := b2) (b3 := b3) (b4 := b4) (b5 := b5) (b6 := b6) (b7 := b7) (b8 := b8) (b9 := b9) (b10 := b10) (b11 := b11) (b12 := b12) (b13 := b13) (b14 := b14) (b15 := b15) (b16 := b16) (b17 := b17) (kinds := kinds) (tgs := tgs) (first := first) (second := second) (vals := vals) (qs := qs) (hds := hds) (An := An) (qi := qi) (qo := qo) (Tm := Tm) (Nw := Nw) (Kw := Kw) (ni := ni) (bc := bc) (cm := cm) (cn := cn) (qc := qc) (cd := cd) (ris := ris) (i0 := x0) (j0 := y0) (by omega) (by omega) (by omega) (by omega)) (cwV 2 C.2.2.2.2.1 gX6_asked_X6_isNoPlace rfl rfl rfl (by decide +kernel) ⟨Nat.le_of_ble_eq_true rfl, Nat.le_of_ble_eq_true rfl⟩) [wMM g mm b1 b2 b3 b4 b5 b6 b7 b8 b9 b10 b11 b12 b13 b14 b15 b16 b17 kinds ni cm first second An An Tm Tm bc hds tgs qc qi qo qs cn vals Nw Nw Kw Kw cd] [0] [] [] (fun _ => [wMM g mm b1 b2 b3 b4 b5 b6 b7 b8 b9 b10 b11 b12 b13 b14 b15 b16 b17 kinds ni cm first second An An Tm Tm bc hds tgs qc qi qo qs cn vals Nw Nw Kw Kw 0]) (fun _ => wMM g mm b1 b2 b3 b4 b5 b6 b7 b8 b9 b10 b11 b12 b13 b14 b15 b16 b17 kinds ni cm first second An An Tm Tm bc hds tgs qc qi qo qs cn vals Nw Nw Kw Kw 0 ++ ([])) rfl rfl rfl (fun _ => rfl) (fun _ => rfl) (fun _ => rfl) (fun _ => rfl) rfl rfl rfl rfl rfl (Nat.le_of_ble_eq_true rfl) dX6_asked_3 ⟨by decide, by decide⟩ (fun r_2 _ h_1 => ?_)
  subst h_1
  refine v_ifz_ne C 37 dX6_asked_6 (by decide) (fun h => nomatch h) (fun _ => ?_)
  refine v_aload_n C dX6_asked_9 rfl 0 rfl ?_
  refine v_iload_n C dX6_asked_10 rfl 3 rfl ?_
  refine v_iconst C (z := 0) dX6_asked_11 ?_
  refine v_aload_n C dX6_asked_12 rfl 0 rfl ?_
  refine v_iload_n C dX6_asked_13 rfl 1 rfl ?_
  refine v_iload_n C dX6_asked_14 rfl 2 rfl ?_
  refine v_invVI C (As := [.int (iI ((x0 : Nat) : Int)), .int (iI ((y0 : Nat) : Int))]) (q0 := 0) (ci := 6) (kX6_sidesIn l g (mm := mm) (b1 := b1) (b2 := b2) (b3 := b3) (b4 := b4) (b5 := b5) (b6 := b6) (b7 := b7) (b8 := b8) (b9 := b9) (b10 := b10) (b11 := b11) (b12 := b12) (b13 := b13) (b14 := b14) (b15 := b15) (b16 := b16) (b17 := b17) (kinds := kinds) (tgs := tgs) (first := first) (second := second) (vals := vals) (qs := qs) (hds := hds) (An := An) (qi := qi) (qo := qo) (Tm := Tm) (Nw := Nw) (Kw := Kw) (ni := ni) (bc := bc) (cm := cm) (cn := cn) (qc := qc) (cd := 0) (ris := ris) (c0 := x0) (i0 := y0) (by omega) (by omega) (by omega) hS9.2) (cwV 2 C.2.2.2.2.1 gX6_asked_X6_sidesIn rfl rfl rfl (by decide +kernel) ⟨Nat.le_of_ble_eq_true rfl, Nat.le_of_ble_eq_true rfl⟩) [wMM g mm b1 b2 b3 b4 b5 b6 b7 b8 b9 b10 b11 b12 b13 b14 b15 b16 b17 kinds ni cm first second An An Tm Tm bc hds tgs qc qi qo qs cn vals Nw Nw Kw Kw 0] [0] [] [.int (iI (0)), .int (iI (z)), .ref (mm)] (fun _ => [wMM g mm b1 b2 b3 b4 b5 b6 b7 b8 b9 b10 b11 b12 b13 b14 b15 b16 b17 kinds ni cm first second An An Tm Tm bc hds tgs qc qi qo qs cn vals Nw Nw Kw Kw 0]) (fun _ => wMM g mm b1 b2 b3 b4 b5 b6 b7 b8 b9 b10 b11 b12 b13 b14 b15 b16 b17 kinds ni cm first second An An Tm Tm bc hds tgs qc qi qo qs cn vals Nw Nw Kw Kw 0 ++ ([])) rfl rfl rfl (fun _ => rfl) (fun _ => rfl) (fun _ => rfl) (fun _ => rfl) rfl rfl rfl rfl rfl (Nat.le_of_ble_eq_true rfl) dX6_asked_15 ⟨by decide, by decide⟩ (fun r_4 _ h_3 => ?_)
  subst h_3
  refine v_iconst C (z := 1) dX6_asked_18 ?_
  refine v_isub C dX6_asked_19 ?_
  refine v_invSI C (As := [.int (iI (z)), .int (iI (0)), .int (iI ((((cnt (Tm (12 * x0 + y0)) : Nat) : Int)) - 1))]) (kX6_in_t l g  (x := z) (y := 0) (z := (((cnt (Tm (12 * x0 + y0)) : Nat) : Int)) - 1) ⟨by omega, by omega⟩ (b31_lit _ rfl) ⟨by omega, by omega⟩ (by omega) (by omega)) (cwS 3 C.2.2.2.2.1 gX6_asked_X6_in rfl rfl rfl (by decide +kernel) ⟨Nat.le_of_ble_eq_true rfl, Nat.le_of_ble_eq_true rfl⟩) [wMM g mm b1 b2 b3 b4 b5 b6 b7 b8 b9 b10 b11 b12 b13 b14 b15 b16 b17 kinds ni cm first second An An Tm Tm bc hds tgs qc qi qo qs cn vals Nw Nw Kw Kw 0] [] [0] [.ref (mm)] (fun _ => [wMM g mm b1 b2 b3 b4 b5 b6 b7 b8 b9 b10 b11 b12 b13 b14 b15 b16 b17 kinds ni cm first second An An Tm Tm bc hds tgs qc qi qo qs cn vals Nw Nw Kw Kw 0]) (fun _ => wMM g mm b1 b2 b3 b4 b5 b6 b7 b8 b9 b10 b11 b12 b13 b14 b15 b16 b17 kinds ni cm first second An An Tm Tm bc hds tgs qc qi qo qs cn vals Nw Nw Kw Kw 0 ++ ([])) rfl rfl rfl (fun _ => rfl) (fun _ => rfl) (fun _ => rfl) (fun _ => rfl) rfl rfl (Nat.le_of_ble_eq_true rfl) dX6_asked_20 ⟨by decide, by decide⟩ (fun r_6 _ h_5 => ?_)
  subst h_5
  refine v_ifz_eq C 30 dX6_asked_23 (by decide) (fun h => nomatch h) (fun _ => ?_)
  refine v_iconst C (z := 0) dX6_asked_26 ?_
  refine v_goto C 31 dX6_asked_27 (by decide) ?_
  refine v_invVI C (As := [.int (iI (0))]) (q0 := 0) (ci := 6) (kX6_fails_z l g (mm := mm) (b1 := b1) (b2 := b2) (b3 := b3) (b4 := b4) (b5 := b5) (b6 := b6) (b7 := b7) (b8 := b8) (b9 := b9) (b10 := b10) (b11 := b11) (b12 := b12) (b13 := b13) (b14 := b14) (b15 := b15) (b16 := b16) (b17 := b17) (kinds := kinds) (tgs := tgs) (first := first) (second := second) (vals := vals) (qs := qs) (hds := hds) (An := An) (qi := qi) (qo := qo) (Tm := Tm) (Nw := Nw) (Kw := Kw) (ni := ni) (bc := bc) (cm := cm) (cn := cn) (qc := qc) (cd := 0) (ris := ris)  ) (cwV 1 C.2.2.2.2.1 gX6_asked_X6_fails rfl rfl rfl (by decide +kernel) ⟨Nat.le_of_ble_eq_true rfl, Nat.le_of_ble_eq_true rfl⟩) [wMM g mm b1 b2 b3 b4 b5 b6 b7 b8 b9 b10 b11 b12 b13 b14 b15 b16 b17 kinds ni cm first second An An Tm Tm bc hds tgs qc qi qo qs cn vals Nw Nw Kw Kw 0] [0] [] [] (fun _ => [wMM g mm b1 b2 b3 b4 b5 b6 b7 b8 b9 b10 b11 b12 b13 b14 b15 b16 b17 kinds ni cm first second An An Tm Tm bc hds tgs qc qi qo qs cn vals Nw Nw Kw Kw 0]) (fun _ => wMM g mm b1 b2 b3 b4 b5 b6 b7 b8 b9 b10 b11 b12 b13 b14 b15 b16 b17 kinds ni cm first second An An Tm Tm bc hds tgs qc qi qo qs cn vals Nw Nw Kw Kw 0 ++ ([])) rfl rfl rfl (fun _ => rfl) (fun _ => rfl) (fun _ => rfl) (fun _ => rfl) rfl rfl rfl rfl rfl (Nat.le_of_ble_eq_true rfl) dX6_asked_31 ⟨by decide, by decide⟩ (fun r_8 _ h_7 => ?_)
  subst h_7
  refine v_ifz_eq C 39 dX6_asked_34 (by decide) (fun _ => ?_) (fun h => nomatch h) 
  refine v_aload_n C dX6_asked_39 rfl 0 rfl ?_
  refine v_get C 0 (kf := 17) rfl rfl (by decide) inX6_asked_6 lkX6_asked_58 rfl rfl dX6_asked_40 ?_
  refine v_aload_n C dX6_asked_43 rfl 0 rfl ?_
  refine v_aload_n C dX6_asked_44 rfl 0 rfl ?_
  refine v_get C 0 (kf := 7) rfl rfl (by decide) inX6_asked_6 lkX6_asked_31 rfl rfl dX6_asked_45 ?_
  refine v_iload_n C dX6_asked_48 rfl 1 rfl ?_
  refine v_iload_n C dX6_asked_49 rfl 2 rfl ?_
  refine v_invSI C (As := [.int (iI ((x0 : Nat) : Int)), .int (iI ((y0 : Nat) : Int))]) (kX6_at l g  (r0 := x0) (i0 := y0) ) (cwS 2 C.2.2.2.2.1 gX6_asked_X6_at rfl rfl rfl (by decide +kernel) ⟨Nat.le_of_ble_eq_true rfl, Nat.le_of_ble_eq_true rfl⟩) [wMM g mm b1 b2 b3 b4 b5 b6 b7 b8 b9 b10 b11 b12 b13 b14 b15 b16 b17 kinds ni cm first second An An Tm Tm bc hds tgs qc qi qo qs cn vals Nw Nw Kw Kw 0] [] [0] [.ref (b6), .ref (mm), .ref (b13)] (fun _ => [wMM g mm b1 b2 b3 b4 b5 b6 b7 b8 b9 b10 b11 b12 b13 b14 b15 b16 b17 kinds ni cm first second An An Tm Tm bc hds tgs qc qi qo qs cn vals Nw Nw Kw Kw 0]) (fun _ => wMM g mm b1 b2 b3 b4 b5 b6 b7 b8 b9 b10 b11 b12 b13 b14 b15 b16 b17 kinds ni cm first second An An Tm Tm bc hds tgs qc qi qo qs cn vals Nw Nw Kw Kw 0 ++ ([])) rfl rfl rfl (fun _ => rfl) (fun _ => rfl) (fun _ => rfl) (fun _ => rfl) rfl rfl (Nat.le_of_ble_eq_true rfl) dX6_asked_50 ⟨by decide, by decide⟩ (fun r_10 _ h_9 => ?_)
  subst h_9
  refine v_lald C 6 (12 * x0 + y0) rfl rfl (by omega) (by decide) dX6_asked_53 ?_
  refine v_aload_n C dX6_asked_54 rfl 0 rfl ?_
  refine v_get C 0 (kf := 8) rfl rfl (by decide) inX6_asked_6 lkX6_asked_34 rfl rfl dX6_asked_55 ?_
  refine v_iload_n C dX6_asked_58 rfl 1 rfl ?_
  refine v_iload_n C dX6_asked_59 rfl 2 rfl ?_
  refine v_invSI C (As := [.int (iI ((x0 : Nat) : Int)), .int (iI ((y0 : Nat) : Int))]) (kX6_at l g  (r0 := x0) (i0 := y0) ) (cwS 2 C.2.2.2.2.1 gX6_asked_X6_at rfl rfl rfl (by decide +kernel) ⟨Nat.le_of_ble_eq_true rfl, Nat.le_of_ble_eq_true rfl⟩) [wMM g mm b1 b2 b3 b4 b5 b6 b7 b8 b9 b10 b11 b12 b13 b14 b15 b16 b17 kinds ni cm first second An An Tm Tm bc hds tgs qc qi qo qs cn vals Nw Nw Kw Kw 0] [] [0] [.ref (b7), .long (loM (Tm (12 * x0 + y0))), .ref (mm), .ref (b13)] (fun _ => [wMM g mm b1 b2 b3 b4 b5 b6 b7 b8 b9 b10 b11 b12 b13 b14 b15 b16 b17 kinds ni cm first second An An Tm Tm bc hds tgs qc qi qo qs cn vals Nw Nw Kw Kw 0]) (fun _ => wMM g mm b1 b2 b3 b4 b5 b6 b7 b8 b9 b10 b11 b12 b13 b14 b15 b16 b17 kinds ni cm first second An An Tm Tm bc hds tgs qc qi qo qs cn vals Nw Nw Kw Kw 0 ++ ([])) rfl rfl rfl (fun _ => rfl) (fun _ => rfl) (fun _ => rfl) (fun _ => rfl) rfl rfl (Nat.le_of_ble_eq_true rfl) dX6_asked_60 ⟨by decide, by decide⟩ (fun r_12 _ h_11 => ?_)
  subst h_11
  refine v_lald C 7 (12 * x0 + y0) rfl rfl (by omega) (by decide) dX6_asked_63 ?_
  refine v_iload_n C dX6_asked_64 rfl 3 rfl ?_
  refine v_invVI C (As := [.long (loM (Tm (12 * x0 + y0))), .long (hiM (Tm (12 * x0 + y0))), .int (iI (z))]) (q0 := 0) (ci := 6) (kX6_sideOf l g (mm := mm) (b1 := b1) (b2 := b2) (b3 := b3) (b4 := b4) (b5 := b5) (b6 := b6) (b7 := b7) (b8 := b8) (b9 := b9) (b10 := b10) (b11 := b11) (b12 := b12) (b13 := b13) (b14 := b14) (b15 := b15) (b16 := b16) (b17 := b17) (kinds := kinds) (tgs := tgs) (first := first) (second := second) (vals := vals) (qs := qs) (hds := hds) (An := An) (qi := qi) (qo := qo) (Tm := Tm) (Nw := Nw) (Kw := Kw) (ni := ni) (bc := bc) (cm := cm) (cn := cn) (qc := qc) (cd := 0) (ris := ris) (S := Tm (12 * x0 + y0)) (ix := z) hpal hS9.2 ⟨by omega, by omega⟩) (cwV 3 C.2.2.2.2.1 gX6_asked_X6_sideOf rfl rfl rfl (by decide +kernel) ⟨Nat.le_of_ble_eq_true rfl, Nat.le_of_ble_eq_true rfl⟩) [wMM g mm b1 b2 b3 b4 b5 b6 b7 b8 b9 b10 b11 b12 b13 b14 b15 b16 b17 kinds ni cm first second An An Tm Tm bc hds tgs qc qi qo qs cn vals Nw Nw Kw Kw 0] [0] [] [.ref (b13)] (fun _ => [wMM g mm b1 b2 b3 b4 b5 b6 b7 b8 b9 b10 b11 b12 b13 b14 b15 b16 b17 kinds ni cm first second An An Tm Tm bc hds tgs qc qi qo qs cn vals Nw Nw Kw Kw 0]) (fun _ => wMM g mm b1 b2 b3 b4 b5 b6 b7 b8 b9 b10 b11 b12 b13 b14 b15 b16 b17 kinds ni cm first second An An Tm Tm bc hds tgs qc qi qo qs cn vals Nw Nw Kw Kw 0 ++ ([])) rfl rfl rfl (fun _ => rfl) (fun _ => rfl) (fun _ => rfl) (fun _ => rfl) rfl rfl rfl rfl rfl (Nat.le_of_ble_eq_true rfl) dX6_asked_65 ⟨by decide, by decide⟩ (fun r_14 _ h_13 => ?_)
  subst h_13
  have hsn := sIx_nat (sIx_some hpal hS9.2 hz3 hz4) hpal.2.2.2.1
  refine v_st (st' := [.int (iI (((sIx (fun j => ((Tm (12 * x0 + y0))).testBit (ris j)) ris z cn).toNat : Nat) : Int)), .ref (b13)]) (by rw [← hsn.1]) ?_
  refine v_iald C 13 ((sIx (fun j => ((Tm (12 * x0 + y0))).testBit (ris j)) ris z cn).toNat) rfl rfl (by omega) (by decide) dX6_asked_68 ?_
  exact (v_iret C hr hl () (by decide) (by decide) rfl rfl dX6_asked_69)
set_option maxHeartbeats 4000000 in
set_option maxRecDepth 100000 in
theorem kX6_asked_a (l : Launch) (g : vG) {mm b1 b2 b3 b4 b5 b6 b7 b8 b9 b10 b11 b12 b13 b14 b15 b16 b17 : Nat} {kinds tgs first second vals qs : Nat → Int} {hds An qi qo Tm Nw Kw ris : Nat → Nat} {ni bc cm cn qc cd : Nat} {x : Int} {y : Int} {z : Int} (hI : MI vals ris cn kinds tgs first second qs hds An qi qo Tm ni bc cm qc) (hx : b31 x) (hqx : ¬ (0 ≤ x ∧ x < ((cm : Nat) : Int))) (hy : b31 y) (hz : b31 z)  : mI l g yX6_asked wsX6_asked ({ frames := 3, cells := 0, slots := 0, locals := 65 }) [.ref (mm), .int (iI (x)), .int (iI (y)), .int (iI (z))] (wMM g mm b1 b2 b3 b4 b5 b6 b7 b8 b9 b10 b11 b12 b13 b14 b15 b16 b17 kinds ni cm first second An An Tm Tm bc hds tgs qc qi qo qs cn vals Nw Nw Kw Kw cd ++ ([])) (fun _ : Unit => wMM g mm b1 b2 b3 b4 b5 b6 b7 b8 b9 b10 b11 b12 b13 b14 b15 b16 b17 kinds ni cm first second An An Tm Tm bc hds tgs qc qi qo qs cn vals Nw Nw Kw Kw 1 ++ ([])) (fun _ _ => True) 0 0 := by
  refine mI_of (cc := cX6_asked) (maxL := 4) (ret := (some .int)) (own := RX6) (by decide) rfl rfl (Nat.le_of_ble_eq_true rfl) ?_
  intro p e s m args below meth c A C hr hl hin
  obtain ⟨hni, hbc1, hbc, hcm1, hcm, hcn1, hnm, hqc, hhd, htg, hf, hs, hfc, hsc, hAn, hTm, hao, hpal, hqb, hqi, htk, hkd⟩ := id hI
  have hx1 := hx.1
  have hx2 := hx.2
  have hy1 := hy.1
  have hy2 := hy.2
  have hz1 := hz.1
  have hz2 := hz.2
  refine v_aload_n C dX6_asked_0 rfl 0 rfl ?_
  refine v_iload_n C dX6_asked_1 rfl 1 rfl ?_
  refine v_iload_n C dX6_asked_2 rfl 2 rfl ?_
  refine v_invVI C (As := [.int (iI (x)), .int (iI (y))]) (q0 := 0) (ci := 6) (kX6_isNoPlace_a l g (mm := mm) (b1 := b1) (b2 := b2) (b3 := b3) (b4 := b4) (b5 := b5) (b6 := b6) (b7 := b7) (b8 := b8) (b9 := b9) (b10 := b10) (b11 := b11) (b12 := b12) (b13 := b13) (b14 := b14) (b15 := b15) (b16 := b16) (b17 := b17) (kinds := kinds) (tgs := tgs) (first := first) (second := second) (vals := vals) (qs := qs) (hds := hds) (An := An) (qi := qi) (qo := qo) (Tm := Tm) (Nw := Nw) (Kw := Kw) (ni := ni) (bc := bc) (cm := cm) (cn := cn) (qc := qc) (cd := cd) (ris := ris) (x := x) (y := y) ⟨by omega, by omega⟩ (by omega) (by omega) (by omega)) (cwV 2 C.2.2.2.2.1 gX6_asked_X6_isNoPlace rfl rfl rfl (by decide +kernel) ⟨Nat.le_of_ble_eq_true rfl, Nat.le_of_ble_eq_true rfl⟩) [wMM g mm b1 b2 b3 b4 b5 b6 b7 b8 b9 b10 b11 b12 b13 b14 b15 b16 b17 kinds ni cm first second An An Tm Tm bc hds tgs qc qi qo qs cn vals Nw Nw Kw Kw cd] [0] [] [] (fun _ => [wMM g mm b1 b2 b3 b4 b5 b6 b7 b8 b9 b10 b11 b12 b13 b14 b15 b16 b17 kinds ni cm first second An An Tm Tm bc hds tgs qc qi qo qs cn vals Nw Nw Kw Kw 1]) (fun _ => wMM g mm b1 b2 b3 b4 b5 b6 b7 b8 b9 b10 b11 b12 b13 b14 b15 b16 b17 kinds ni cm first second An An Tm Tm bc hds tgs qc qi qo qs cn vals Nw Nw Kw Kw 1 ++ ([])) rfl rfl rfl (fun _ => rfl) (fun _ => rfl) (fun _ => rfl) (fun _ => rfl) rfl rfl rfl rfl rfl (Nat.le_of_ble_eq_true rfl) dX6_asked_3 ⟨by decide, by decide⟩ (fun r_2 _ h_1 => ?_)
  subst h_1
  refine v_ifz_ne C 37 dX6_asked_6 (by decide) (fun _ => ?_) (fun h => nomatch h) 
  refine v_iconst C (z := 0) dX6_asked_37 ?_
  exact (v_iret C hr hl () (by decide) (by decide) rfl trivial dX6_asked_38)
set_option maxHeartbeats 4000000 in
set_option maxRecDepth 100000 in
theorem kX6_asked_b (l : Launch) (g : vG) {mm b1 b2 b3 b4 b5 b6 b7 b8 b9 b10 b11 b12 b13 b14 b15 b16 b17 : Nat} {kinds tgs first second vals qs : Nat → Int} {hds An qi qo Tm Nw Kw ris : Nat → Nat} {ni bc cm cn qc cd : Nat} {x0 : Nat} {y : Int} {z : Int} (hI : MI vals ris cn kinds tgs first second qs hds An qi qo Tm ni bc cm qc) (hx0 : x0 < cm) (hy : b31 y) (hqy : ¬ (0 ≤ y ∧ y < ((ni : Nat) : Int))) (hz : b31 z)  : mI l g yX6_asked wsX6_asked ({ frames := 3, cells := 0, slots := 0, locals := 65 }) [.ref (mm), .int (iI ((x0 : Nat) : Int)), .int (iI (y)), .int (iI (z))] (wMM g mm b1 b2 b3 b4 b5 b6 b7 b8 b9 b10 b11 b12 b13 b14 b15 b16 b17 kinds ni cm first second An An Tm Tm bc hds tgs qc qi qo qs cn vals Nw Nw Kw Kw cd ++ ([])) (fun _ : Unit => wMM g mm b1 b2 b3 b4 b5 b6 b7 b8 b9 b10 b11 b12 b13 b14 b15 b16 b17 kinds ni cm first second An An Tm Tm bc hds tgs qc qi qo qs cn vals Nw Nw Kw Kw 1 ++ ([])) (fun _ _ => True) 0 0 := by
  refine mI_of (cc := cX6_asked) (maxL := 4) (ret := (some .int)) (own := RX6) (by decide) rfl rfl (Nat.le_of_ble_eq_true rfl) ?_
  intro p e s m args below meth c A C hr hl hin
  obtain ⟨hni, hbc1, hbc, hcm1, hcm, hcn1, hnm, hqc, hhd, htg, hf, hs, hfc, hsc, hAn, hTm, hao, hpal, hqb, hqi, htk, hkd⟩ := id hI
  have hy1 := hy.1
  have hy2 := hy.2
  have hz1 := hz.1
  have hz2 := hz.2
  refine v_aload_n C dX6_asked_0 rfl 0 rfl ?_
  refine v_iload_n C dX6_asked_1 rfl 1 rfl ?_
  refine v_iload_n C dX6_asked_2 rfl 2 rfl ?_
  refine v_invVI C (As := [.int (iI ((x0 : Nat) : Int)), .int (iI (y))]) (q0 := 0) (ci := 6) (kX6_isNoPlace_b l g (mm := mm) (b1 := b1) (b2 := b2) (b3 := b3) (b4 := b4) (b5 := b5) (b6 := b6) (b7 := b7) (b8 := b8) (b9 := b9) (b10 := b10) (b11 := b11) (b12 := b12) (b13 := b13) (b14 := b14) (b15 := b15) (b16 := b16) (b17 := b17) (kinds := kinds) (tgs := tgs) (first := first) (second := second) (vals := vals) (qs := qs) (hds := hds) (An := An) (qi := qi) (qo := qo) (Tm := Tm) (Nw := Nw) (Kw := Kw) (ni := ni) (bc := bc) (cm := cm) (cn := cn) (qc := qc) (cd := cd) (ris := ris) (i0 := x0) (y := y) (by omega) ⟨by omega, by omega⟩ (by omega) (by omega) (by omega)) (cwV 2 C.2.2.2.2.1 gX6_asked_X6_isNoPlace rfl rfl rfl (by decide +kernel) ⟨Nat.le_of_ble_eq_true rfl, Nat.le_of_ble_eq_true rfl⟩) [wMM g mm b1 b2 b3 b4 b5 b6 b7 b8 b9 b10 b11 b12 b13 b14 b15 b16 b17 kinds ni cm first second An An Tm Tm bc hds tgs qc qi qo qs cn vals Nw Nw Kw Kw cd] [0] [] [] (fun _ => [wMM g mm b1 b2 b3 b4 b5 b6 b7 b8 b9 b10 b11 b12 b13 b14 b15 b16 b17 kinds ni cm first second An An Tm Tm bc hds tgs qc qi qo qs cn vals Nw Nw Kw Kw 1]) (fun _ => wMM g mm b1 b2 b3 b4 b5 b6 b7 b8 b9 b10 b11 b12 b13 b14 b15 b16 b17 kinds ni cm first second An An Tm Tm bc hds tgs qc qi qo qs cn vals Nw Nw Kw Kw 1 ++ ([])) rfl rfl rfl (fun _ => rfl) (fun _ => rfl) (fun _ => rfl) (fun _ => rfl) rfl rfl rfl rfl rfl (Nat.le_of_ble_eq_true rfl) dX6_asked_3 ⟨by decide, by decide⟩ (fun r_2 _ h_1 => ?_)
  subst h_1
  refine v_ifz_ne C 37 dX6_asked_6 (by decide) (fun _ => ?_) (fun h => nomatch h) 
  refine v_iconst C (z := 0) dX6_asked_37 ?_
  exact (v_iret C hr hl () (by decide) (by decide) rfl trivial dX6_asked_38)
set_option maxHeartbeats 4000000 in
set_option maxRecDepth 100000 in
theorem kX6_asked_2 (l : Launch) (g : vG) {mm b1 b2 b3 b4 b5 b6 b7 b8 b9 b10 b11 b12 b13 b14 b15 b16 b17 : Nat} {kinds tgs first second vals qs : Nat → Int} {hds An qi qo Tm Nw Kw ris : Nat → Nat} {ni bc cm cn qc cd : Nat} {x0 : Nat} {y0 : Nat} {z : Int} (hI : MI vals ris cn kinds tgs first second qs hds An qi qo Tm ni bc cm qc) (hx0 : x0 < cm) (hy0 : y0 < ni) (hz : b31 z) (hq : ¬ (0 ≤ z ∧ z < ((cnt (Tm (12 * x0 + y0)) : Nat) : Int))) : mI l g yX6_asked wsX6_asked ({ frames := 3, cells := 0, slots := 0, locals := 72 }) [.ref (mm), .int (iI ((x0 : Nat) : Int)), .int (iI ((y0 : Nat) : Int)), .int (iI (z))] (wMM g mm b1 b2 b3 b4 b5 b6 b7 b8 b9 b10 b11 b12 b13 b14 b15 b16 b17 kinds ni cm first second An An Tm Tm bc hds tgs qc qi qo qs cn vals Nw Nw Kw Kw cd ++ ([])) (fun _ : Unit => wMM g mm b1 b2 b3 b4 b5 b6 b7 b8 b9 b10 b11 b12 b13 b14 b15 b16 b17 kinds ni cm first second An An Tm Tm bc hds tgs qc qi qo qs cn vals Nw Nw Kw Kw 2 ++ ([])) (fun _ _ => True) 0 0 := by
  refine mI_of (cc := cX6_asked) (maxL := 4) (ret := (some .int)) (own := RX6) (by decide) rfl rfl (Nat.le_of_ble_eq_true rfl) ?_
  intro p e s m args below meth c A C hr hl hin
  obtain ⟨hni, hbc1, hbc, hcm1, hcm, hcn1, hnm, hqc, hhd, htg, hf, hs, hfc, hsc, hAn, hTm, hao, hpal, hqb, hqi, htk, hkd⟩ := id hI
  have hz1 := hz.1
  have hz2 := hz.2
  have hS9 := htk _ hx0 y0 hy0
  have hcb := cnt_le (Tm (12 * x0 + y0))
  refine v_aload_n C dX6_asked_0 rfl 0 rfl ?_
  refine v_iload_n C dX6_asked_1 rfl 1 rfl ?_
  refine v_iload_n C dX6_asked_2 rfl 2 rfl ?_
  refine v_invVI C (As := [.int (iI ((x0 : Nat) : Int)), .int (iI ((y0 : Nat) : Int))]) (q0 := 0) (ci := 6) (kX6_isNoPlace_in l g (mm := mm) (b1 := b1) (b2 := b2) (b3 := b3) (b4 := b4) (b5 := b5) (b6 := b6) (b7 := b7) (b8 := b8) (b9 := b9) (b10 := b10) (b11 := b11) (b12 := b12) (b13 := b13) (b14 := b14) (b15 := b15) (b16 := b16) (b17 := b17) (kinds := kinds) (tgs := tgs) (first := first) (second := second) (vals := vals) (qs := qs) (hds := hds) (An := An) (qi := qi) (qo := qo) (Tm := Tm) (Nw := Nw) (Kw := Kw) (ni := ni) (bc := bc) (cm := cm) (cn := cn) (qc := qc) (cd := cd) (ris := ris) (i0 := x0) (j0 := y0) (by omega) (by omega) (by omega) (by omega)) (cwV 2 C.2.2.2.2.1 gX6_asked_X6_isNoPlace rfl rfl rfl (by decide +kernel) ⟨Nat.le_of_ble_eq_true rfl, Nat.le_of_ble_eq_true rfl⟩) [wMM g mm b1 b2 b3 b4 b5 b6 b7 b8 b9 b10 b11 b12 b13 b14 b15 b16 b17 kinds ni cm first second An An Tm Tm bc hds tgs qc qi qo qs cn vals Nw Nw Kw Kw cd] [0] [] [] (fun _ => [wMM g mm b1 b2 b3 b4 b5 b6 b7 b8 b9 b10 b11 b12 b13 b14 b15 b16 b17 kinds ni cm first second An An Tm Tm bc hds tgs qc qi qo qs cn vals Nw Nw Kw Kw 0]) (fun _ => wMM g mm b1 b2 b3 b4 b5 b6 b7 b8 b9 b10 b11 b12 b13 b14 b15 b16 b17 kinds ni cm first second An An Tm Tm bc hds tgs qc qi qo qs cn vals Nw Nw Kw Kw 0 ++ ([])) rfl rfl rfl (fun _ => rfl) (fun _ => rfl) (fun _ => rfl) (fun _ => rfl) rfl rfl rfl rfl rfl (Nat.le_of_ble_eq_true rfl) dX6_asked_3 ⟨by decide, by decide⟩ (fun r_2 _ h_1 => ?_)
  subst h_1
  refine v_ifz_ne C 37 dX6_asked_6 (by decide) (fun h => nomatch h) (fun _ => ?_)
  refine v_aload_n C dX6_asked_9 rfl 0 rfl ?_
  refine v_iload_n C dX6_asked_10 rfl 3 rfl ?_
  refine v_iconst C (z := 0) dX6_asked_11 ?_
  refine v_aload_n C dX6_asked_12 rfl 0 rfl ?_
  refine v_iload_n C dX6_asked_13 rfl 1 rfl ?_
  refine v_iload_n C dX6_asked_14 rfl 2 rfl ?_
  refine v_invVI C (As := [.int (iI ((x0 : Nat) : Int)), .int (iI ((y0 : Nat) : Int))]) (q0 := 0) (ci := 6) (kX6_sidesIn l g (mm := mm) (b1 := b1) (b2 := b2) (b3 := b3) (b4 := b4) (b5 := b5) (b6 := b6) (b7 := b7) (b8 := b8) (b9 := b9) (b10 := b10) (b11 := b11) (b12 := b12) (b13 := b13) (b14 := b14) (b15 := b15) (b16 := b16) (b17 := b17) (kinds := kinds) (tgs := tgs) (first := first) (second := second) (vals := vals) (qs := qs) (hds := hds) (An := An) (qi := qi) (qo := qo) (Tm := Tm) (Nw := Nw) (Kw := Kw) (ni := ni) (bc := bc) (cm := cm) (cn := cn) (qc := qc) (cd := 0) (ris := ris) (c0 := x0) (i0 := y0) (by omega) (by omega) (by omega) hS9.2) (cwV 2 C.2.2.2.2.1 gX6_asked_X6_sidesIn rfl rfl rfl (by decide +kernel) ⟨Nat.le_of_ble_eq_true rfl, Nat.le_of_ble_eq_true rfl⟩) [wMM g mm b1 b2 b3 b4 b5 b6 b7 b8 b9 b10 b11 b12 b13 b14 b15 b16 b17 kinds ni cm first second An An Tm Tm bc hds tgs qc qi qo qs cn vals Nw Nw Kw Kw 0] [0] [] [.int (iI (0)), .int (iI (z)), .ref (mm)] (fun _ => [wMM g mm b1 b2 b3 b4 b5 b6 b7 b8 b9 b10 b11 b12 b13 b14 b15 b16 b17 kinds ni cm first second An An Tm Tm bc hds tgs qc qi qo qs cn vals Nw Nw Kw Kw 0]) (fun _ => wMM g mm b1 b2 b3 b4 b5 b6 b7 b8 b9 b10 b11 b12 b13 b14 b15 b16 b17 kinds ni cm first second An An Tm Tm bc hds tgs qc qi qo qs cn vals Nw Nw Kw Kw 0 ++ ([])) rfl rfl rfl (fun _ => rfl) (fun _ => rfl) (fun _ => rfl) (fun _ => rfl) rfl rfl rfl rfl rfl (Nat.le_of_ble_eq_true rfl) dX6_asked_15 ⟨by decide, by decide⟩ (fun r_4 _ h_3 => ?_)
  subst h_3
  refine v_iconst C (z := 1) dX6_asked_18 ?_
  refine v_isub C dX6_asked_19 ?_
  refine v_invSI C (As := [.int (iI (z)), .int (iI (0)), .int (iI ((((cnt (Tm (12 * x0 + y0)) : Nat) : Int)) - 1))]) (kX6_in_f l g  (x := z) (y := 0) (z := (((cnt (Tm (12 * x0 + y0)) : Nat) : Int)) - 1) ⟨by omega, by omega⟩ (b31_lit _ rfl) ⟨by omega, by omega⟩ (by omega)) (cwS 3 C.2.2.2.2.1 gX6_asked_X6_in rfl rfl rfl (by decide +kernel) ⟨Nat.le_of_ble_eq_true rfl, Nat.le_of_ble_eq_true rfl⟩) [wMM g mm b1 b2 b3 b4 b5 b6 b7 b8 b9 b10 b11 b12 b13 b14 b15 b16 b17 kinds ni cm first second An An Tm Tm bc hds tgs qc qi qo qs cn vals Nw Nw Kw Kw 0] [] [0] [.ref (mm)] (fun _ => [wMM g mm b1 b2 b3 b4 b5 b6 b7 b8 b9 b10 b11 b12 b13 b14 b15 b16 b17 kinds ni cm first second An An Tm Tm bc hds tgs qc qi qo qs cn vals Nw Nw Kw Kw 0]) (fun _ => wMM g mm b1 b2 b3 b4 b5 b6 b7 b8 b9 b10 b11 b12 b13 b14 b15 b16 b17 kinds ni cm first second An An Tm Tm bc hds tgs qc qi qo qs cn vals Nw Nw Kw Kw 0 ++ ([])) rfl rfl rfl (fun _ => rfl) (fun _ => rfl) (fun _ => rfl) (fun _ => rfl) rfl rfl (Nat.le_of_ble_eq_true rfl) dX6_asked_20 ⟨by decide, by decide⟩ (fun r_6 _ h_5 => ?_)
  subst h_5
  refine v_ifz_eq C 30 dX6_asked_23 (by decide) (fun _ => ?_) (fun h => nomatch h) 
  refine v_iconst C (z := 2) dX6_asked_30 ?_
  refine v_invVI C (As := [.int (iI (2))]) (q0 := 0) (ci := 6) (kX6_fails_p l g (mm := mm) (b1 := b1) (b2 := b2) (b3 := b3) (b4 := b4) (b5 := b5) (b6 := b6) (b7 := b7) (b8 := b8) (b9 := b9) (b10 := b10) (b11 := b11) (b12 := b12) (b13 := b13) (b14 := b14) (b15 := b15) (b16 := b16) (b17 := b17) (kinds := kinds) (tgs := tgs) (first := first) (second := second) (vals := vals) (qs := qs) (hds := hds) (An := An) (qi := qi) (qo := qo) (Tm := Tm) (Nw := Nw) (Kw := Kw) (ni := ni) (bc := bc) (cm := cm) (cn := cn) (qc := qc) (cd := 0) (ris := ris) (q := 2) (by decide)) (cwV 1 C.2.2.2.2.1 gX6_asked_X6_fails rfl rfl rfl (by decide +kernel) ⟨Nat.le_of_ble_eq_true rfl, Nat.le_of_ble_eq_true rfl⟩) [wMM g mm b1 b2 b3 b4 b5 b6 b7 b8 b9 b10 b11 b12 b13 b14 b15 b16 b17 kinds ni cm first second An An Tm Tm bc hds tgs qc qi qo qs cn vals Nw Nw Kw Kw 0] [0] [] [] (fun _ => [wMM g mm b1 b2 b3 b4 b5 b6 b7 b8 b9 b10 b11 b12 b13 b14 b15 b16 b17 kinds ni cm first second An An Tm Tm bc hds tgs qc qi qo qs cn vals Nw Nw Kw Kw 2]) (fun _ => wMM g mm b1 b2 b3 b4 b5 b6 b7 b8 b9 b10 b11 b12 b13 b14 b15 b16 b17 kinds ni cm first second An An Tm Tm bc hds tgs qc qi qo qs cn vals Nw Nw Kw Kw 2 ++ ([])) rfl rfl rfl (fun _ => rfl) (fun _ => rfl) (fun _ => rfl) (fun _ => rfl) rfl rfl rfl rfl rfl (Nat.le_of_ble_eq_true rfl) dX6_asked_31 ⟨by decide, by decide⟩ (fun r_8 _ h_7 => ?_)
  subst h_7
  refine v_ifz_eq C 39 dX6_asked_34 (by decide) (fun h => nomatch h) (fun _ => ?_)
  refine v_iconst C (z := 0) dX6_asked_37 ?_
  exact (v_iret C hr hl () (by decide) (by decide) rfl trivial dX6_asked_38)
set_option maxHeartbeats 4000000 in
set_option maxRecDepth 100000 in
theorem kX6_sideAt_ok (l : Launch) (g : vG) {mm b1 b2 b3 b4 b5 b6 b7 b8 b9 b10 b11 b12 b13 b14 b15 b16 b17 : Nat} {kinds tgs first second vals qs : Nat → Int} {hds An qi qo Tm Nw Kw ris : Nat → Nat} {ni bc cm cn qc cd : Nat} {x0 : Nat} {y0 : Nat} {z : Int} (hI : MI vals ris cn kinds tgs first second qs hds An qi qo Tm ni bc cm qc) (hx0 : x0 < cm) (hy0 : y0 < ni) (hz : b31 z) (hz3 : 0 ≤ z) (hz4 : z < ((cnt (Tm (12 * x0 + y0)) : Nat) : Int)) : mI l g yX6_sideAt wsX6_sideAt ({ frames := 4, cells := 0, slots := 0, locals := 95 }) [.ref (mm), .int (iI ((x0 : Nat) : Int)), .int (iI ((y0 : Nat) : Int)), .int (iI (z))] (wMM g mm b1 b2 b3 b4 b5 b6 b7 b8 b9 b10 b11 b12 b13 b14 b15 b16 b17 kinds ni cm first second An An Tm Tm bc hds tgs qc qi qo qs cn vals Nw Nw Kw Kw cd ++ ([])) (fun _ : Unit => wMM g mm b1 b2 b3 b4 b5 b6 b7 b8 b9 b10 b11 b12 b13 b14 b15 b16 b17 kinds ni cm first second An An Tm Tm bc hds tgs qc qi qo qs cn vals Nw Nw Kw Kw 0 ++ ([])) (fun v _ => v = iI (vals (sIx (fun j => (Tm (12 * x0 + y0)).testBit (ris j)) ris z cn).toNat)) 0 0 := by
  refine mI_of (cc := cX6_sideAt) (maxL := 4) (ret := (some .int)) (own := RX6) (by decide) rfl rfl (Nat.le_of_ble_eq_true rfl) ?_
  intro p e s m args below meth c A C hr hl hin
  obtain ⟨hni, hbc1, hbc, hcm1, hcm, hcn1, hnm, hqc, hhd, htg, hf, hs, hfc, hsc, hAn, hTm, hao, hpal, hqb, hqi, htk, hkd⟩ := id hI
  have hz1 := hz.1
  have hz2 := hz.2
  refine v_aload_n C dX6_sideAt_0 rfl 0 rfl ?_
  refine v_iload_n C dX6_sideAt_1 rfl 1 rfl ?_
  refine v_iload_n C dX6_sideAt_2 rfl 2 rfl ?_
  refine v_iload_n C dX6_sideAt_3 rfl 3 rfl ?_
  refine v_invVI C (As := [.int (iI ((x0 : Nat) : Int)), .int (iI ((y0 : Nat) : Int)), .int (iI (z))]) (q0 := 0) (ci := 6) (kX6_asked_ok l g (mm := mm) (b1 := b1) (b2 := b2) (b3 := b3) (b4 := b4) (b5 := b5) (b6 := b6) (b7 := b7) (b8 := b8) (b9 := b9) (b10 := b10) (b11 := b11) (b12 := b12) (b13 := b13) (b14 := b14) (b15 := b15) (b16 := b16) (b17 := b17) (kinds := kinds) (tgs := tgs) (first := first) (second := second) (vals := vals) (qs := qs) (hds := hds) (An := An) (qi := qi) (qo := qo) (Tm := Tm) (Nw := Nw) (Kw := Kw) (ni := ni) (bc := bc) (cm := cm) (cn := cn) (qc := qc) (cd := cd) (ris := ris) (x0 := x0) (y0 := y0) (z := z) hI (by omega) (by omega) ⟨by omega, by omega⟩ hz3 hz4) (cwV 3 C.2.2.2.2.1 gX6_sideAt_X6_asked rfl rfl rfl (by decide +kernel) ⟨Nat.le_of_ble_eq_true rfl, Nat.le_of_ble_eq_true rfl⟩) [wMM g mm b1 b2 b3 b4 b5 b6 b7 b8 b9 b10 b11 b12 b13 b14 b15 b16 b17 kinds ni cm first second An An Tm Tm bc hds tgs qc qi qo qs cn vals Nw Nw Kw Kw cd] [0] [] [] (fun _ => [wMM g mm b1 b2 b3 b4 b5 b6 b7 b8 b9 b10 b11 b12 b13 b14 b15 b16 b17 kinds ni cm first second An An Tm Tm bc hds tgs qc qi qo qs cn vals Nw Nw Kw Kw 0]) (fun _ => wMM g mm b1 b2 b3 b4 b5 b6 b7 b8 b9 b10 b11 b12 b13 b14 b15 b16 b17 kinds ni cm first second An An Tm Tm bc hds tgs qc qi qo qs cn vals Nw Nw Kw Kw 0 ++ ([])) rfl rfl rfl (fun _ => rfl) (fun _ => rfl) (fun _ => rfl) (fun _ => rfl) rfl rfl rfl rfl rfl (Nat.le_of_ble_eq_true rfl) dX6_sideAt_4 ⟨by decide, by decide⟩ (fun r_2 _ h_1 => ?_)
  subst h_1
  exact (v_iret C hr hl () (by decide) (by decide) rfl rfl dX6_sideAt_7)
set_option maxHeartbeats 4000000 in
set_option maxRecDepth 100000 in
theorem kX6_sideAt_a (l : Launch) (g : vG) {mm b1 b2 b3 b4 b5 b6 b7 b8 b9 b10 b11 b12 b13 b14 b15 b16 b17 : Nat} {kinds tgs first second vals qs : Nat → Int} {hds An qi qo Tm Nw Kw ris : Nat → Nat} {ni bc cm cn qc cd : Nat} {x : Int} {y : Int} {z : Int} (hI : MI vals ris cn kinds tgs first second qs hds An qi qo Tm ni bc cm qc) (hx : b31 x) (hqx : ¬ (0 ≤ x ∧ x < ((cm : Nat) : Int))) (hy : b31 y) (hz : b31 z)  : mI l g yX6_sideAt wsX6_sideAt ({ frames := 4, cells := 0, slots := 0, locals := 88 }) [.ref (mm), .int (iI (x)), .int (iI (y)), .int (iI (z))] (wMM g mm b1 b2 b3 b4 b5 b6 b7 b8 b9 b10 b11 b12 b13 b14 b15 b16 b17 kinds ni cm first second An An Tm Tm bc hds tgs qc qi qo qs cn vals Nw Nw Kw Kw cd ++ ([])) (fun _ : Unit => wMM g mm b1 b2 b3 b4 b5 b6 b7 b8 b9 b10 b11 b12 b13 b14 b15 b16 b17 kinds ni cm first second An An Tm Tm bc hds tgs qc qi qo qs cn vals Nw Nw Kw Kw 1 ++ ([])) (fun _ _ => True) 0 0 := by
  refine mI_of (cc := cX6_sideAt) (maxL := 4) (ret := (some .int)) (own := RX6) (by decide) rfl rfl (Nat.le_of_ble_eq_true rfl) ?_
  intro p e s m args below meth c A C hr hl hin
  obtain ⟨hni, hbc1, hbc, hcm1, hcm, hcn1, hnm, hqc, hhd, htg, hf, hs, hfc, hsc, hAn, hTm, hao, hpal, hqb, hqi, htk, hkd⟩ := id hI
  have hx1 := hx.1
  have hx2 := hx.2
  have hy1 := hy.1
  have hy2 := hy.2
  have hz1 := hz.1
  have hz2 := hz.2
  refine v_aload_n C dX6_sideAt_0 rfl 0 rfl ?_
  refine v_iload_n C dX6_sideAt_1 rfl 1 rfl ?_
  refine v_iload_n C dX6_sideAt_2 rfl 2 rfl ?_
  refine v_iload_n C dX6_sideAt_3 rfl 3 rfl ?_
  refine v_invVI C (As := [.int (iI (x)), .int (iI (y)), .int (iI (z))]) (q0 := 0) (ci := 6) (kX6_asked_a l g (mm := mm) (b1 := b1) (b2 := b2) (b3 := b3) (b4 := b4) (b5 := b5) (b6 := b6) (b7 := b7) (b8 := b8) (b9 := b9) (b10 := b10) (b11 := b11) (b12 := b12) (b13 := b13) (b14 := b14) (b15 := b15) (b16 := b16) (b17 := b17) (kinds := kinds) (tgs := tgs) (first := first) (second := second) (vals := vals) (qs := qs) (hds := hds) (An := An) (qi := qi) (qo := qo) (Tm := Tm) (Nw := Nw) (Kw := Kw) (ni := ni) (bc := bc) (cm := cm) (cn := cn) (qc := qc) (cd := cd) (ris := ris) (x := x) (y := y) (z := z) hI ⟨by omega, by omega⟩ (by omega) ⟨by omega, by omega⟩ ⟨by omega, by omega⟩) (cwV 3 C.2.2.2.2.1 gX6_sideAt_X6_asked rfl rfl rfl (by decide +kernel) ⟨Nat.le_of_ble_eq_true rfl, Nat.le_of_ble_eq_true rfl⟩) [wMM g mm b1 b2 b3 b4 b5 b6 b7 b8 b9 b10 b11 b12 b13 b14 b15 b16 b17 kinds ni cm first second An An Tm Tm bc hds tgs qc qi qo qs cn vals Nw Nw Kw Kw cd] [0] [] [] (fun _ => [wMM g mm b1 b2 b3 b4 b5 b6 b7 b8 b9 b10 b11 b12 b13 b14 b15 b16 b17 kinds ni cm first second An An Tm Tm bc hds tgs qc qi qo qs cn vals Nw Nw Kw Kw 1]) (fun _ => wMM g mm b1 b2 b3 b4 b5 b6 b7 b8 b9 b10 b11 b12 b13 b14 b15 b16 b17 kinds ni cm first second An An Tm Tm bc hds tgs qc qi qo qs cn vals Nw Nw Kw Kw 1 ++ ([])) rfl rfl rfl (fun _ => rfl) (fun _ => rfl) (fun _ => rfl) (fun _ => rfl) rfl rfl rfl rfl rfl (Nat.le_of_ble_eq_true rfl) dX6_sideAt_4 ⟨by decide, by decide⟩ (fun r_2 _ h_1 => ?_)
  exact (v_iret C hr hl () (by decide) (by decide) rfl trivial dX6_sideAt_7)
set_option maxHeartbeats 4000000 in
set_option maxRecDepth 100000 in
theorem kX6_sideAt_b (l : Launch) (g : vG) {mm b1 b2 b3 b4 b5 b6 b7 b8 b9 b10 b11 b12 b13 b14 b15 b16 b17 : Nat} {kinds tgs first second vals qs : Nat → Int} {hds An qi qo Tm Nw Kw ris : Nat → Nat} {ni bc cm cn qc cd : Nat} {x0 : Nat} {y : Int} {z : Int} (hI : MI vals ris cn kinds tgs first second qs hds An qi qo Tm ni bc cm qc) (hx0 : x0 < cm) (hy : b31 y) (hqy : ¬ (0 ≤ y ∧ y < ((ni : Nat) : Int))) (hz : b31 z)  : mI l g yX6_sideAt wsX6_sideAt ({ frames := 4, cells := 0, slots := 0, locals := 88 }) [.ref (mm), .int (iI ((x0 : Nat) : Int)), .int (iI (y)), .int (iI (z))] (wMM g mm b1 b2 b3 b4 b5 b6 b7 b8 b9 b10 b11 b12 b13 b14 b15 b16 b17 kinds ni cm first second An An Tm Tm bc hds tgs qc qi qo qs cn vals Nw Nw Kw Kw cd ++ ([])) (fun _ : Unit => wMM g mm b1 b2 b3 b4 b5 b6 b7 b8 b9 b10 b11 b12 b13 b14 b15 b16 b17 kinds ni cm first second An An Tm Tm bc hds tgs qc qi qo qs cn vals Nw Nw Kw Kw 1 ++ ([])) (fun _ _ => True) 0 0 := by
  refine mI_of (cc := cX6_sideAt) (maxL := 4) (ret := (some .int)) (own := RX6) (by decide) rfl rfl (Nat.le_of_ble_eq_true rfl) ?_
  intro p e s m args below meth c A C hr hl hin
  obtain ⟨hni, hbc1, hbc, hcm1, hcm, hcn1, hnm, hqc, hhd, htg, hf, hs, hfc, hsc, hAn, hTm, hao, hpal, hqb, hqi, htk, hkd⟩ := id hI
  have hy1 := hy.1
  have hy2 := hy.2
  have hz1 := hz.1
  have hz2 := hz.2
  refine v_aload_n C dX6_sideAt_0 rfl 0 rfl ?_
  refine v_iload_n C dX6_sideAt_1 rfl 1 rfl ?_
  refine v_iload_n C dX6_sideAt_2 rfl 2 rfl ?_
  refine v_iload_n C dX6_sideAt_3 rfl 3 rfl ?_
  refine v_invVI C (As := [.int (iI ((x0 : Nat) : Int)), .int (iI (y)), .int (iI (z))]) (q0 := 0) (ci := 6) (kX6_asked_b l g (mm := mm) (b1 := b1) (b2 := b2) (b3 := b3) (b4 := b4) (b5 := b5) (b6 := b6) (b7 := b7) (b8 := b8) (b9 := b9) (b10 := b10) (b11 := b11) (b12 := b12) (b13 := b13) (b14 := b14) (b15 := b15) (b16 := b16) (b17 := b17) (kinds := kinds) (tgs := tgs) (first := first) (second := second) (vals := vals) (qs := qs) (hds := hds) (An := An) (qi := qi) (qo := qo) (Tm := Tm) (Nw := Nw) (Kw := Kw) (ni := ni) (bc := bc) (cm := cm) (cn := cn) (qc := qc) (cd := cd) (ris := ris) (x0 := x0) (y := y) (z := z) hI (by omega) ⟨by omega, by omega⟩ (by omega) ⟨by omega, by omega⟩) (cwV 3 C.2.2.2.2.1 gX6_sideAt_X6_asked rfl rfl rfl (by decide +kernel) ⟨Nat.le_of_ble_eq_true rfl, Nat.le_of_ble_eq_true rfl⟩) [wMM g mm b1 b2 b3 b4 b5 b6 b7 b8 b9 b10 b11 b12 b13 b14 b15 b16 b17 kinds ni cm first second An An Tm Tm bc hds tgs qc qi qo qs cn vals Nw Nw Kw Kw cd] [0] [] [] (fun _ => [wMM g mm b1 b2 b3 b4 b5 b6 b7 b8 b9 b10 b11 b12 b13 b14 b15 b16 b17 kinds ni cm first second An An Tm Tm bc hds tgs qc qi qo qs cn vals Nw Nw Kw Kw 1]) (fun _ => wMM g mm b1 b2 b3 b4 b5 b6 b7 b8 b9 b10 b11 b12 b13 b14 b15 b16 b17 kinds ni cm first second An An Tm Tm bc hds tgs qc qi qo qs cn vals Nw Nw Kw Kw 1 ++ ([])) rfl rfl rfl (fun _ => rfl) (fun _ => rfl) (fun _ => rfl) (fun _ => rfl) rfl rfl rfl rfl rfl (Nat.le_of_ble_eq_true rfl) dX6_sideAt_4 ⟨by decide, by decide⟩ (fun r_2 _ h_1 => ?_)
  exact (v_iret C hr hl () (by decide) (by decide) rfl trivial dX6_sideAt_7)
set_option maxHeartbeats 4000000 in
set_option maxRecDepth 100000 in
theorem kX6_sideAt_2 (l : Launch) (g : vG) {mm b1 b2 b3 b4 b5 b6 b7 b8 b9 b10 b11 b12 b13 b14 b15 b16 b17 : Nat} {kinds tgs first second vals qs : Nat → Int} {hds An qi qo Tm Nw Kw ris : Nat → Nat} {ni bc cm cn qc cd : Nat} {x0 : Nat} {y0 : Nat} {z : Int} (hI : MI vals ris cn kinds tgs first second qs hds An qi qo Tm ni bc cm qc) (hx0 : x0 < cm) (hy0 : y0 < ni) (hz : b31 z) (hq : ¬ (0 ≤ z ∧ z < ((cnt (Tm (12 * x0 + y0)) : Nat) : Int))) : mI l g yX6_sideAt wsX6_sideAt ({ frames := 4, cells := 0, slots := 0, locals := 95 }) [.ref (mm), .int (iI ((x0 : Nat) : Int)), .int (iI ((y0 : Nat) : Int)), .int (iI (z))] (wMM g mm b1 b2 b3 b4 b5 b6 b7 b8 b9 b10 b11 b12 b13 b14 b15 b16 b17 kinds ni cm first second An An Tm Tm bc hds tgs qc qi qo qs cn vals Nw Nw Kw Kw cd ++ ([])) (fun _ : Unit => wMM g mm b1 b2 b3 b4 b5 b6 b7 b8 b9 b10 b11 b12 b13 b14 b15 b16 b17 kinds ni cm first second An An Tm Tm bc hds tgs qc qi qo qs cn vals Nw Nw Kw Kw 2 ++ ([])) (fun _ _ => True) 0 0 := by
  refine mI_of (cc := cX6_sideAt) (maxL := 4) (ret := (some .int)) (own := RX6) (by decide) rfl rfl (Nat.le_of_ble_eq_true rfl) ?_
  intro p e s m args below meth c A C hr hl hin
  obtain ⟨hni, hbc1, hbc, hcm1, hcm, hcn1, hnm, hqc, hhd, htg, hf, hs, hfc, hsc, hAn, hTm, hao, hpal, hqb, hqi, htk, hkd⟩ := id hI
  have hz1 := hz.1
  have hz2 := hz.2
  refine v_aload_n C dX6_sideAt_0 rfl 0 rfl ?_
  refine v_iload_n C dX6_sideAt_1 rfl 1 rfl ?_
  refine v_iload_n C dX6_sideAt_2 rfl 2 rfl ?_
  refine v_iload_n C dX6_sideAt_3 rfl 3 rfl ?_
  refine v_invVI C (As := [.int (iI ((x0 : Nat) : Int)), .int (iI ((y0 : Nat) : Int)), .int (iI (z))]) (q0 := 0) (ci := 6) (kX6_asked_2 l g (mm := mm) (b1 := b1) (b2 := b2) (b3 := b3) (b4 := b4) (b5 := b5) (b6 := b6) (b7 := b7) (b8 := b8) (b9 := b9) (b10 := b10) (b11 := b11) (b12 := b12) (b13 := b13) (b14 := b14) (b15 := b15) (b16 := b16) (b17 := b17) (kinds := kinds) (tgs := tgs) (first := first) (second := second) (vals := vals) (qs := qs) (hds := hds) (An := An) (qi := qi) (qo := qo) (Tm := Tm) (Nw := Nw) (Kw := Kw) (ni := ni) (bc := bc) (cm := cm) (cn := cn) (qc := qc) (cd := cd) (ris := ris) (x0 := x0) (y0 := y0) (z := z) hI (by omega) (by omega) ⟨by omega, by omega⟩ hq) (cwV 3 C.2.2.2.2.1 gX6_sideAt_X6_asked rfl rfl rfl (by decide +kernel) ⟨Nat.le_of_ble_eq_true rfl, Nat.le_of_ble_eq_true rfl⟩) [wMM g mm b1 b2 b3 b4 b5 b6 b7 b8 b9 b10 b11 b12 b13 b14 b15 b16 b17 kinds ni cm first second An An Tm Tm bc hds tgs qc qi qo qs cn vals Nw Nw Kw Kw cd] [0] [] [] (fun _ => [wMM g mm b1 b2 b3 b4 b5 b6 b7 b8 b9 b10 b11 b12 b13 b14 b15 b16 b17 kinds ni cm first second An An Tm Tm bc hds tgs qc qi qo qs cn vals Nw Nw Kw Kw 2]) (fun _ => wMM g mm b1 b2 b3 b4 b5 b6 b7 b8 b9 b10 b11 b12 b13 b14 b15 b16 b17 kinds ni cm first second An An Tm Tm bc hds tgs qc qi qo qs cn vals Nw Nw Kw Kw 2 ++ ([])) rfl rfl rfl (fun _ => rfl) (fun _ => rfl) (fun _ => rfl) (fun _ => rfl) rfl rfl rfl rfl rfl (Nat.le_of_ble_eq_true rfl) dX6_sideAt_4 ⟨by decide, by decide⟩ (fun r_2 _ h_1 => ?_)
  exact (v_iret C hr hl () (by decide) (by decide) rfl trivial dX6_sideAt_7)
set_option maxHeartbeats 4000000 in
set_option maxRecDepth 100000 in
theorem kX6_sideByLog_ok (l : Launch) (g : vG) {mm b1 b2 b3 b4 b5 b6 b7 b8 b9 b10 b11 b12 b13 b14 b15 b16 b17 : Nat} {kinds tgs first second vals qs : Nat → Int} {hds An qi qo Tm Nw Kw ris : Nat → Nat} {ni bc cm cn qc cd : Nat} {x0 : Nat} {y0 : Nat} {z : Int} (hI : MI vals ris cn kinds tgs first second qs hds An qi qo Tm ni bc cm qc) (hx0 : x0 < cm) (hy0 : y0 < ni) (hz : b31 z) (hz3 : 0 ≤ z) (hz4 : z < ((cnt (Tm (12 * x0 + y0)) : Nat) : Int)) : mI l g yX6_sideByLog wsX6_sideByLog ({ frames := 4, cells := 0, slots := 0, locals := 95 }) [.ref (mm), .int (iI ((x0 : Nat) : Int)), .int (iI ((y0 : Nat) : Int)), .int (iI (z))] (wMM g mm b1 b2 b3 b4 b5 b6 b7 b8 b9 b10 b11 b12 b13 b14 b15 b16 b17 kinds ni cm first second An An Tm Tm bc hds tgs qc qi qo qs cn vals Nw Nw Kw Kw cd ++ ([])) (fun _ : Unit => wMM g mm b1 b2 b3 b4 b5 b6 b7 b8 b9 b10 b11 b12 b13 b14 b15 b16 b17 kinds ni cm first second An An Tm Tm bc hds tgs qc qi qo qs cn vals Nw Nw Kw Kw 0 ++ ([])) (fun v _ => v = iI (vals (sIx (fun j => (Tm (12 * x0 + y0)).testBit (ris j)) ris z cn).toNat)) 0 0 := by
  refine mI_of (cc := cX6_sideByLog) (maxL := 4) (ret := (some .int)) (own := RX6) (by decide) rfl rfl (Nat.le_of_ble_eq_true rfl) ?_
  intro p e s m args below meth c A C hr hl hin
  obtain ⟨hni, hbc1, hbc, hcm1, hcm, hcn1, hnm, hqc, hhd, htg, hf, hs, hfc, hsc, hAn, hTm, hao, hpal, hqb, hqi, htk, hkd⟩ := id hI
  have hz1 := hz.1
  have hz2 := hz.2
  refine v_aload_n C dX6_sideByLog_0 rfl 0 rfl ?_
  refine v_iload_n C dX6_sideByLog_1 rfl 1 rfl ?_
  refine v_iload_n C dX6_sideByLog_2 rfl 2 rfl ?_
  refine v_iload_n C dX6_sideByLog_3 rfl 3 rfl ?_
  refine v_invVI C (As := [.int (iI ((x0 : Nat) : Int)), .int (iI ((y0 : Nat) : Int)), .int (iI (z))]) (q0 := 0) (ci := 6) (kX6_asked_ok l g (mm := mm) (b1 := b1) (b2 := b2) (b3 := b3) (b4 := b4) (b5 := b5) (b6 := b6) (b7 := b7) (b8 := b8) (b9 := b9) (b10 := b10) (b11 := b11) (b12 := b12) (b13 := b13) (b14 := b14) (b15 := b15) (b16 := b16) (b17 := b17) (kinds := kinds) (tgs := tgs) (first := first) (second := second) (vals := vals) (qs := qs) (hds := hds) (An := An) (qi := qi) (qo := qo) (Tm := Tm) (Nw := Nw) (Kw := Kw) (ni := ni) (bc := bc) (cm := cm) (cn := cn) (qc := qc) (cd := cd) (ris := ris) (x0 := x0) (y0 := y0) (z := z) hI (by omega) (by omega) ⟨by omega, by omega⟩ hz3 hz4) (cwV 3 C.2.2.2.2.1 gX6_sideByLog_X6_asked rfl rfl rfl (by decide +kernel) ⟨Nat.le_of_ble_eq_true rfl, Nat.le_of_ble_eq_true rfl⟩) [wMM g mm b1 b2 b3 b4 b5 b6 b7 b8 b9 b10 b11 b12 b13 b14 b15 b16 b17 kinds ni cm first second An An Tm Tm bc hds tgs qc qi qo qs cn vals Nw Nw Kw Kw cd] [0] [] [] (fun _ => [wMM g mm b1 b2 b3 b4 b5 b6 b7 b8 b9 b10 b11 b12 b13 b14 b15 b16 b17 kinds ni cm first second An An Tm Tm bc hds tgs qc qi qo qs cn vals Nw Nw Kw Kw 0]) (fun _ => wMM g mm b1 b2 b3 b4 b5 b6 b7 b8 b9 b10 b11 b12 b13 b14 b15 b16 b17 kinds ni cm first second An An Tm Tm bc hds tgs qc qi qo qs cn vals Nw Nw Kw Kw 0 ++ ([])) rfl rfl rfl (fun _ => rfl) (fun _ => rfl) (fun _ => rfl) (fun _ => rfl) rfl rfl rfl rfl rfl (Nat.le_of_ble_eq_true rfl) dX6_sideByLog_4 ⟨by decide, by decide⟩ (fun r_2 _ h_1 => ?_)
  subst h_1
  exact (v_iret C hr hl () (by decide) (by decide) rfl rfl dX6_sideByLog_7)
set_option maxHeartbeats 4000000 in
set_option maxRecDepth 100000 in
theorem kX6_sideByLog_a (l : Launch) (g : vG) {mm b1 b2 b3 b4 b5 b6 b7 b8 b9 b10 b11 b12 b13 b14 b15 b16 b17 : Nat} {kinds tgs first second vals qs : Nat → Int} {hds An qi qo Tm Nw Kw ris : Nat → Nat} {ni bc cm cn qc cd : Nat} {x : Int} {y : Int} {z : Int} (hI : MI vals ris cn kinds tgs first second qs hds An qi qo Tm ni bc cm qc) (hx : b31 x) (hqx : ¬ (0 ≤ x ∧ x < ((cm : Nat) : Int))) (hy : b31 y) (hz : b31 z)  : mI l g yX6_sideByLog wsX6_sideByLog ({ frames := 4, cells := 0, slots := 0, locals := 88 }) [.ref (mm), .int (iI (x)), .int (iI (y)), .int (iI (z))] (wMM g mm b1 b2 b3 b4 b5 b6 b7 b8 b9 b10 b11 b12 b13 b14 b15 b16 b17 kinds ni cm first second An An Tm Tm bc hds tgs qc qi qo qs cn vals Nw Nw Kw Kw cd ++ ([])) (fun _ : Unit => wMM g mm b1 b2 b3 b4 b5 b6 b7 b8 b9 b10 b11 b12 b13 b14 b15 b16 b17 kinds ni cm first second An An Tm Tm bc hds tgs qc qi qo qs cn vals Nw Nw Kw Kw 1 ++ ([])) (fun _ _ => True) 0 0 := by
  refine mI_of (cc := cX6_sideByLog) (maxL := 4) (ret := (some .int)) (own := RX6) (by decide) rfl rfl (Nat.le_of_ble_eq_true rfl) ?_
  intro p e s m args below meth c A C hr hl hin
  obtain ⟨hni, hbc1, hbc, hcm1, hcm, hcn1, hnm, hqc, hhd, htg, hf, hs, hfc, hsc, hAn, hTm, hao, hpal, hqb, hqi, htk, hkd⟩ := id hI
  have hx1 := hx.1
  have hx2 := hx.2
  have hy1 := hy.1
  have hy2 := hy.2
  have hz1 := hz.1
  have hz2 := hz.2
  refine v_aload_n C dX6_sideByLog_0 rfl 0 rfl ?_
  refine v_iload_n C dX6_sideByLog_1 rfl 1 rfl ?_
  refine v_iload_n C dX6_sideByLog_2 rfl 2 rfl ?_
  refine v_iload_n C dX6_sideByLog_3 rfl 3 rfl ?_
  refine v_invVI C (As := [.int (iI (x)), .int (iI (y)), .int (iI (z))]) (q0 := 0) (ci := 6) (kX6_asked_a l g (mm := mm) (b1 := b1) (b2 := b2) (b3 := b3) (b4 := b4) (b5 := b5) (b6 := b6) (b7 := b7) (b8 := b8) (b9 := b9) (b10 := b10) (b11 := b11) (b12 := b12) (b13 := b13) (b14 := b14) (b15 := b15) (b16 := b16) (b17 := b17) (kinds := kinds) (tgs := tgs) (first := first) (second := second) (vals := vals) (qs := qs) (hds := hds) (An := An) (qi := qi) (qo := qo) (Tm := Tm) (Nw := Nw) (Kw := Kw) (ni := ni) (bc := bc) (cm := cm) (cn := cn) (qc := qc) (cd := cd) (ris := ris) (x := x) (y := y) (z := z) hI ⟨by omega, by omega⟩ (by omega) ⟨by omega, by omega⟩ ⟨by omega, by omega⟩) (cwV 3 C.2.2.2.2.1 gX6_sideByLog_X6_asked rfl rfl rfl (by decide +kernel) ⟨Nat.le_of_ble_eq_true rfl, Nat.le_of_ble_eq_true rfl⟩) [wMM g mm b1 b2 b3 b4 b5 b6 b7 b8 b9 b10 b11 b12 b13 b14 b15 b16 b17 kinds ni cm first second An An Tm Tm bc hds tgs qc qi qo qs cn vals Nw Nw Kw Kw cd] [0] [] [] (fun _ => [wMM g mm b1 b2 b3 b4 b5 b6 b7 b8 b9 b10 b11 b12 b13 b14 b15 b16 b17 kinds ni cm first second An An Tm Tm bc hds tgs qc qi qo qs cn vals Nw Nw Kw Kw 1]) (fun _ => wMM g mm b1 b2 b3 b4 b5 b6 b7 b8 b9 b10 b11 b12 b13 b14 b15 b16 b17 kinds ni cm first second An An Tm Tm bc hds tgs qc qi qo qs cn vals Nw Nw Kw Kw 1 ++ ([])) rfl rfl rfl (fun _ => rfl) (fun _ => rfl) (fun _ => rfl) (fun _ => rfl) rfl rfl rfl rfl rfl (Nat.le_of_ble_eq_true rfl) dX6_sideByLog_4 ⟨by decide, by decide⟩ (fun r_2 _ h_1 => ?_)
  exact (v_iret C hr hl () (by decide) (by decide) rfl trivial dX6_sideByLog_7)
set_option maxHeartbeats 4000000 in
set_option maxRecDepth 100000 in
theorem kX6_sideByLog_b (l : Launch) (g : vG) {mm b1 b2 b3 b4 b5 b6 b7 b8 b9 b10 b11 b12 b13 b14 b15 b16 b17 : Nat} {kinds tgs first second vals qs : Nat → Int} {hds An qi qo Tm Nw Kw ris : Nat → Nat} {ni bc cm cn qc cd : Nat} {x0 : Nat} {y : Int} {z : Int} (hI : MI vals ris cn kinds tgs first second qs hds An qi qo Tm ni bc cm qc) (hx0 : x0 < cm) (hy : b31 y) (hqy : ¬ (0 ≤ y ∧ y < ((ni : Nat) : Int))) (hz : b31 z)  : mI l g yX6_sideByLog wsX6_sideByLog ({ frames := 4, cells := 0, slots := 0, locals := 88 }) [.ref (mm), .int (iI ((x0 : Nat) : Int)), .int (iI (y)), .int (iI (z))] (wMM g mm b1 b2 b3 b4 b5 b6 b7 b8 b9 b10 b11 b12 b13 b14 b15 b16 b17 kinds ni cm first second An An Tm Tm bc hds tgs qc qi qo qs cn vals Nw Nw Kw Kw cd ++ ([])) (fun _ : Unit => wMM g mm b1 b2 b3 b4 b5 b6 b7 b8 b9 b10 b11 b12 b13 b14 b15 b16 b17 kinds ni cm first second An An Tm Tm bc hds tgs qc qi qo qs cn vals Nw Nw Kw Kw 1 ++ ([])) (fun _ _ => True) 0 0 := by
  refine mI_of (cc := cX6_sideByLog) (maxL := 4) (ret := (some .int)) (own := RX6) (by decide) rfl rfl (Nat.le_of_ble_eq_true rfl) ?_
  intro p e s m args below meth c A C hr hl hin
  obtain ⟨hni, hbc1, hbc, hcm1, hcm, hcn1, hnm, hqc, hhd, htg, hf, hs, hfc, hsc, hAn, hTm, hao, hpal, hqb, hqi, htk, hkd⟩ := id hI
  have hy1 := hy.1
  have hy2 := hy.2
  have hz1 := hz.1
  have hz2 := hz.2
  refine v_aload_n C dX6_sideByLog_0 rfl 0 rfl ?_
  refine v_iload_n C dX6_sideByLog_1 rfl 1 rfl ?_
  refine v_iload_n C dX6_sideByLog_2 rfl 2 rfl ?_
  refine v_iload_n C dX6_sideByLog_3 rfl 3 rfl ?_
  refine v_invVI C (As := [.int (iI ((x0 : Nat) : Int)), .int (iI (y)), .int (iI (z))]) (q0 := 0) (ci := 6) (kX6_asked_b l g (mm := mm) (b1 := b1) (b2 := b2) (b3 := b3) (b4 := b4) (b5 := b5) (b6 := b6) (b7 := b7) (b8 := b8) (b9 := b9) (b10 := b10) (b11 := b11) (b12 := b12) (b13 := b13) (b14 := b14) (b15 := b15) (b16 := b16) (b17 := b17) (kinds := kinds) (tgs := tgs) (first := first) (second := second) (vals := vals) (qs := qs) (hds := hds) (An := An) (qi := qi) (qo := qo) (Tm := Tm) (Nw := Nw) (Kw := Kw) (ni := ni) (bc := bc) (cm := cm) (cn := cn) (qc := qc) (cd := cd) (ris := ris) (x0 := x0) (y := y) (z := z) hI (by omega) ⟨by omega, by omega⟩ (by omega) ⟨by omega, by omega⟩) (cwV 3 C.2.2.2.2.1 gX6_sideByLog_X6_asked rfl rfl rfl (by decide +kernel) ⟨Nat.le_of_ble_eq_true rfl, Nat.le_of_ble_eq_true rfl⟩) [wMM g mm b1 b2 b3 b4 b5 b6 b7 b8 b9 b10 b11 b12 b13 b14 b15 b16 b17 kinds ni cm first second An An Tm Tm bc hds tgs qc qi qo qs cn vals Nw Nw Kw Kw cd] [0] [] [] (fun _ => [wMM g mm b1 b2 b3 b4 b5 b6 b7 b8 b9 b10 b11 b12 b13 b14 b15 b16 b17 kinds ni cm first second An An Tm Tm bc hds tgs qc qi qo qs cn vals Nw Nw Kw Kw 1]) (fun _ => wMM g mm b1 b2 b3 b4 b5 b6 b7 b8 b9 b10 b11 b12 b13 b14 b15 b16 b17 kinds ni cm first second An An Tm Tm bc hds tgs qc qi qo qs cn vals Nw Nw Kw Kw 1 ++ ([])) rfl rfl rfl (fun _ => rfl) (fun _ => rfl) (fun _ => rfl) (fun _ => rfl) rfl rfl rfl rfl rfl (Nat.le_of_ble_eq_true rfl) dX6_sideByLog_4 ⟨by decide, by decide⟩ (fun r_2 _ h_1 => ?_)
  exact (v_iret C hr hl () (by decide) (by decide) rfl trivial dX6_sideByLog_7)
set_option maxHeartbeats 4000000 in
set_option maxRecDepth 100000 in
theorem kX6_sideByLog_2 (l : Launch) (g : vG) {mm b1 b2 b3 b4 b5 b6 b7 b8 b9 b10 b11 b12 b13 b14 b15 b16 b17 : Nat} {kinds tgs first second vals qs : Nat → Int} {hds An qi qo Tm Nw Kw ris : Nat → Nat} {ni bc cm cn qc cd : Nat} {x0 : Nat} {y0 : Nat} {z : Int} (hI : MI vals ris cn kinds tgs first second qs hds An qi qo Tm ni bc cm qc) (hx0 : x0 < cm) (hy0 : y0 < ni) (hz : b31 z) (hq : ¬ (0 ≤ z ∧ z < ((cnt (Tm (12 * x0 + y0)) : Nat) : Int))) : mI l g yX6_sideByLog wsX6_sideByLog ({ frames := 4, cells := 0, slots := 0, locals := 95 }) [.ref (mm), .int (iI ((x0 : Nat) : Int)), .int (iI ((y0 : Nat) : Int)), .int (iI (z))] (wMM g mm b1 b2 b3 b4 b5 b6 b7 b8 b9 b10 b11 b12 b13 b14 b15 b16 b17 kinds ni cm first second An An Tm Tm bc hds tgs qc qi qo qs cn vals Nw Nw Kw Kw cd ++ ([])) (fun _ : Unit => wMM g mm b1 b2 b3 b4 b5 b6 b7 b8 b9 b10 b11 b12 b13 b14 b15 b16 b17 kinds ni cm first second An An Tm Tm bc hds tgs qc qi qo qs cn vals Nw Nw Kw Kw 2 ++ ([])) (fun _ _ => True) 0 0 := by
  refine mI_of (cc := cX6_sideByLog) (maxL := 4) (ret := (some .int)) (own := RX6) (by decide) rfl rfl (Nat.le_of_ble_eq_true rfl) ?_
  intro p e s m args below meth c A C hr hl hin
  obtain ⟨hni, hbc1, hbc, hcm1, hcm, hcn1, hnm, hqc, hhd, htg, hf, hs, hfc, hsc, hAn, hTm, hao, hpal, hqb, hqi, htk, hkd⟩ := id hI
  have hz1 := hz.1
  have hz2 := hz.2
  refine v_aload_n C dX6_sideByLog_0 rfl 0 rfl ?_
  refine v_iload_n C dX6_sideByLog_1 rfl 1 rfl ?_
  refine v_iload_n C dX6_sideByLog_2 rfl 2 rfl ?_
  refine v_iload_n C dX6_sideByLog_3 rfl 3 rfl ?_
  refine v_invVI C (As := [.int (iI ((x0 : Nat) : Int)), .int (iI ((y0 : Nat) : Int)), .int (iI (z))]) (q0 := 0) (ci := 6) (kX6_asked_2 l g (mm := mm) (b1 := b1) (b2 := b2) (b3 := b3) (b4 := b4) (b5 := b5) (b6 := b6) (b7 := b7) (b8 := b8) (b9 := b9) (b10 := b10) (b11 := b11) (b12 := b12) (b13 := b13) (b14 := b14) (b15 := b15) (b16 := b16) (b17 := b17) (kinds := kinds) (tgs := tgs) (first := first) (second := second) (vals := vals) (qs := qs) (hds := hds) (An := An) (qi := qi) (qo := qo) (Tm := Tm) (Nw := Nw) (Kw := Kw) (ni := ni) (bc := bc) (cm := cm) (cn := cn) (qc := qc) (cd := cd) (ris := ris) (x0 := x0) (y0 := y0) (z := z) hI (by omega) (by omega) ⟨by omega, by omega⟩ hq) (cwV 3 C.2.2.2.2.1 gX6_sideByLog_X6_asked rfl rfl rfl (by decide +kernel) ⟨Nat.le_of_ble_eq_true rfl, Nat.le_of_ble_eq_true rfl⟩) [wMM g mm b1 b2 b3 b4 b5 b6 b7 b8 b9 b10 b11 b12 b13 b14 b15 b16 b17 kinds ni cm first second An An Tm Tm bc hds tgs qc qi qo qs cn vals Nw Nw Kw Kw cd] [0] [] [] (fun _ => [wMM g mm b1 b2 b3 b4 b5 b6 b7 b8 b9 b10 b11 b12 b13 b14 b15 b16 b17 kinds ni cm first second An An Tm Tm bc hds tgs qc qi qo qs cn vals Nw Nw Kw Kw 2]) (fun _ => wMM g mm b1 b2 b3 b4 b5 b6 b7 b8 b9 b10 b11 b12 b13 b14 b15 b16 b17 kinds ni cm first second An An Tm Tm bc hds tgs qc qi qo qs cn vals Nw Nw Kw Kw 2 ++ ([])) rfl rfl rfl (fun _ => rfl) (fun _ => rfl) (fun _ => rfl) (fun _ => rfl) rfl rfl rfl rfl rfl (Nat.le_of_ble_eq_true rfl) dX6_sideByLog_4 ⟨by decide, by decide⟩ (fun r_2 _ h_1 => ?_)
  exact (v_iret C hr hl () (by decide) (by decide) rfl trivial dX6_sideByLog_7)
