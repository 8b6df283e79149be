theorem cp_step {T : Nat → Nat} {r f i : Nat} (hi : i < 12) (h : f ≠ r) : updN (rowP T r i (fun i => T (12 * f + i))) (12 * r + i) (rowP T r i (fun i => T (12 * f + i)) (12 * f + i)) = rowP T r (i + 1) (fun i => T (12 * f + i)) := by
  rw [rowP_else (by omega) hi h]
  exact rowP_s T r i (fun i => T (12 * f + i))
theorem wMM_h (g : vG) {a b1 b2 b3 b4 b5 b6 b7 b8 b9 b10 b11 b12 b13 b14 b15 b16 b17 : Nat} {kinds first second tags qs vals : Nat → Int} {ni cm bc qc cn cd : Nat} {heads qi qo U W T V X Y K J U2 W2 T2 V2 : Nat → Nat} (h1 : xml U = xml U2) (h2 : xmh W = xmh W2) (h3 : xml T = xml T2) (h4 : xmh V = xmh V2) : wMM g a b1 b2 b3 b4 b5 b6 b7 b8 b9 b10 b11 b12 b13 b14 b15 b16 b17 kinds ni cm first second U W T V bc heads tags qc qi qo qs cn vals X Y K J cd = wMM g a b1 b2 b3 b4 b5 b6 b7 b8 b9 b10 b11 b12 b13 b14 b15 b16 b17 kinds ni cm first second U2 W2 T2 V2 bc heads tags qc qi qo qs cn vals X Y K J cd := by
  show [_, _, _, _, cL g b4 100 (xml U), cL g b5 100 (xmh W), cL g b6 1200 (xml T), cL g b7 1200 (xmh V), _, _, _, _, _, _, _, _, _, _] = _
  rw [h1, h2, h3, h4]
theorem xml_c {An : Nat → Nat} {c a b : Nat} (h : loM a = loM b) : xml (updN An c a) = xml (updN An c b) := by rw [← xml_upd, ← xml_upd, h]
theorem xmh_c {An : Nat → Nat} {c a b : Nat} (h : hiM a = hiM b) : xmh (updN An c a) = xmh (updN An c b) := by rw [← xmh_upd, ← xmh_upd, h]
theorem updN_2 (An : Nat → Nat) (c a b : Nat) : updN (updN An c a) c b = updN An c b := by
  funext k
  unfold updN
  by_cases h : k = c
  · rw [if_pos h, if_pos h]
  · rw [if_neg h, if_neg h, if_neg h]
theorem hiM_pow {a c : Nat} (h : c < 50) : hiM (a ||| 2 ^ c) = hiM a := by
  unfold hiM
  rw [Nat.or_div_two_pow, Nat.div_eq_of_lt (Nat.pow_lt_pow_right (by decide) h), Nat.or_zero]
theorem loM_pow {a c : Nat} (h : 50 ≤ c) : loM (a ||| 2 ^ c) = loM a := by
  unfold loM
  rw [Nat.or_mod_two_pow, Nat.mod_eq_zero_of_dvd (Nat.pow_dvd_pow 2 h), Nat.or_zero]
theorem anc_lo {An : Nat → Nat} {c a : Nat} (h : c < 50) : xml (updN (updN An c a) c (updN An c a c ||| 2 ^ c)) = xml (updN An c (a ||| 2 ^ c)) ∧ xmh (updN An c a) = xmh (updN An c (a ||| 2 ^ c)) := ⟨by rw [updN_2, updN_s], xmh_c (hiM_pow h).symm⟩
theorem anc_hi {An : Nat → Nat} {c a : Nat} (h : 50 ≤ c) : xml (updN An c a) = xml (updN An c (a ||| 2 ^ c)) ∧ xmh (updN (updN An c a) c (updN An c a c ||| 2 ^ c)) = xmh (updN An c (a ||| 2 ^ c)) := ⟨xml_c (loM_pow h).symm, by rw [updN_2, updN_s]⟩
theorem inX6_makes_6 : ∀ w ∈ u_ws RX6 TX6 23, w ∈ wsX6_makes := by decide +kernel
theorem lkX6_makes_40 : Cond.fieldLink RX6 40 "MergeAtelierModel" "heads" "[I" ∈ wsX6_makes := by decide +kernel
theorem lkX6_makes_76 : Cond.fieldLink RX6 76 "MergeAtelierModel" "items" "I" ∈ wsX6_makes := by decide +kernel
theorem lkX6_makes_17 : Cond.fieldLink RX6 17 "MergeAtelierModel" "firsts" "[I" ∈ wsX6_makes := by decide +kernel
theorem lkX6_makes_13 : Cond.fieldLink RX6 13 "MergeAtelierModel" "commits" "I" ∈ wsX6_makes := by decide +kernel
theorem lkX6_makes_21 : Cond.fieldLink RX6 21 "MergeAtelierModel" "seconds" "[I" ∈ wsX6_makes := by decide +kernel
theorem lkX6_makes_24 : Cond.fieldLink RX6 24 "MergeAtelierModel" "oldLow" "[J" ∈ wsX6_makes := by decide +kernel
theorem lkX6_makes_28 : Cond.fieldLink RX6 28 "MergeAtelierModel" "oldHigh" "[J" ∈ wsX6_makes := by decide +kernel
theorem lkX6_makes_31 : Cond.fieldLink RX6 31 "MergeAtelierModel" "low" "[J" ∈ wsX6_makes := by decide +kernel
theorem lkX6_makes_34 : Cond.fieldLink RX6 34 "MergeAtelierModel" "high" "[J" ∈ wsX6_makes := by decide +kernel
set_option maxHeartbeats 4000000 in
set_option maxRecDepth 100000 in
theorem kX6_makes_n (l : Launch) (g : vG) {mm b1 b2 b3 b4 b5 b6 b7 b8 b9 b10 b11 b12 b13 b14 b15 b16 b17 : Nat} {kinds tgs first second vals qs : Nat → Int} {hds An qi qo Tm Nw Kw ris : Nat → Nat} {ni bc cm cn qc cd : Nat} {b0 : Nat} (hb0 : b0 < 5) (hni : ni ≤ 12) (hh : hds (b0) < cm) (hcm : cm < 100) : mI l g yX6_makes wsX6_makes ({ frames := 1, cells := 0, slots := 0, locals := 21 }) [.ref (mm), .int (iI ((b0 : Nat) : Int)), .int (iI (-1))] (wMM g mm b1 b2 b3 b4 b5 b6 b7 b8 b9 b10 b11 b12 b13 b14 b15 b16 b17 kinds ni cm first second An An Tm Tm bc hds tgs qc qi qo qs cn vals Nw Nw Kw Kw cd ++ ([])) (fun _ : Unit => wMM g mm b1 b2 b3 b4 b5 b6 b7 b8 b9 b10 b11 b12 b13 b14 b15 b16 b17 kinds ni (cm + 1) (updZ first (cm) (((hds (b0) : Nat) : Int))) (updZ second (cm) (-1)) (updN An (cm) (An (hds (b0)) ||| 2 ^ cm)) (updN An (cm) (An (hds (b0)) ||| 2 ^ cm)) (rowP Tm cm ni (fun i => Tm (12 * hds (b0) + i))) (rowP Tm cm ni (fun i => Tm (12 * hds (b0) + i))) bc (updN hds (b0) (cm)) tgs qc qi qo qs cn vals Nw Nw Kw Kw cd ++ ([])) (fun v _ => v = iI ((cm : Nat) : Int)) 0 0 := by
  refine mI_of (cc := cX6_makes) (maxL := 5) (ret := (some .int)) (own := RX6) (by decide) rfl rfl (Nat.le_of_ble_eq_true rfl) ?_
  intro p e s m args below meth c A C hr hl hin
  refine v_aload_n C dX6_makes_0 rfl 0 rfl ?_
  refine v_get C 0 (kf := 10) rfl rfl (by decide) inX6_makes_6 lkX6_makes_40 rfl rfl dX6_makes_1 ?_
  refine v_iload_n C dX6_makes_4 rfl 1 rfl ?_
  refine v_ialdn C 8 (b0) rfl rfl (by omega) (by decide) dX6_makes_5 ?_
  refine v_istore_n C [(3, .int (iI ((hds (b0) : Nat) : Int))), (0, .ref (mm)), (1, .int (iI ((b0 : Nat) : Int))), (2, .int (iI (-1)))] dX6_makes_6 rfl (by decide) rfl ?_
  refine v_iconst C (z := 0) dX6_makes_7 ?_
  refine v_istore C [(4, .int (iI (0))), (3, .int (iI ((hds (b0) : Nat) : Int))), (0, .ref (mm)), (1, .int (iI ((b0 : Nat) : Int))), (2, .int (iI (-1)))] dX6_makes_8 (by decide) rfl ?_
  refine v_lv (lv' := [(0, .ref (mm)), (1, .int (iI ((b0 : Nat) : Int))), (2, .int (iI (-1))), (3, .int (iI ((hds (b0) : Nat) : Int))), (4, .int (iI ((0 : Nat) : Int)))]) [2, 3, 4, 1, 0] rfl ?_
  refine v_ws (ws' := wMM g mm b1 b2 b3 b4 b5 b6 b7 b8 b9 b10 b11 b12 b13 b14 b15 b16 b17 kinds ni cm first second An An (rowP Tm cm 0 (fun i => Tm (12 * hds (b0) + i))) (rowP Tm cm 0 (fun i => Tm (12 * hds (b0) + i))) bc hds tgs qc qi qo qs cn vals Nw Nw Kw Kw cd ++ ([])) (by rw [rowP_0]) ?_
  refine v_lp1 (X := Nat) (fun q => wMM g mm b1 b2 b3 b4 b5 b6 b7 b8 b9 b10 b11 b12 b13 b14 b15 b16 b17 kinds ni cm first second An An (rowP Tm cm q (fun i => Tm (12 * hds (b0) + i))) (rowP Tm cm q (fun i => Tm (12 * hds (b0) + i))) bc hds tgs qc qi qo qs cn vals Nw Nw Kw Kw cd ++ ([])) (fun q => [(0, .ref (mm)), (1, .int (iI ((b0 : Nat) : Int))), (2, .int (iI (-1))), (3, .int (iI ((hds (b0) : Nat) : Int))), (4, .int (iI ((q : Nat) : Int)))]) (fun q => ni - q) (fun q => q ≤ ni) ?_ (0) (Nat.zero_le _)
  intro q hJ10 ih10
  try dsimp only at hJ10 ⊢
  refine v_iload C dX6_makes_10 4 rfl ?_
  refine v_aload_n C dX6_makes_12 rfl 0 rfl ?_
  refine v_get C 0 (kf := 0) rfl rfl (by decide) inX6_makes_6 lkX6_makes_76 rfl rfl dX6_makes_13 ?_
  refine v_icmp_ge C 75 dX6_makes_16 (by decide) ⟨by omega, by omega⟩ ⟨by omega, by omega⟩ (fun c_1 => ?_) (fun c_1 => ?_)
  ·
    obtain rfl : ni = q := by omega
    refine v_aload_n C dX6_makes_75 rfl 0 rfl ?_
    refine v_get C 0 (kf := 3) rfl rfl (by decide) inX6_makes_6 lkX6_makes_17 rfl rfl dX6_makes_76 ?_
    refine v_aload_n C dX6_makes_79 rfl 0 rfl ?_
    refine v_get C 0 (kf := 2) rfl rfl (by decide) inX6_makes_6 lkX6_makes_13 rfl rfl dX6_makes_80 ?_
    refine v_iload_n C dX6_makes_83 rfl 3 rfl ?_
    refine v_iast C 2 (cm) (wMM g mm b1 b2 b3 b4 b5 b6 b7 b8 b9 b10 b11 b12 b13 b14 b15 b16 b17 kinds ni cm (updZ first (cm) (((hds (b0) : Nat) : Int))) second An An (rowP Tm cm ni (fun i => Tm (12 * hds (b0) + i))) (rowP Tm cm ni (fun i => Tm (12 * hds (b0) + i))) bc hds tgs qc qi qo qs cn vals Nw Nw Kw Kw cd ++ ([])) rfl rfl (by omega) (by decide) dX6_makes_84 rfl ?_
    refine v_aload_n C dX6_makes_85 rfl 0 rfl ?_
    refine v_get C 0 (kf := 4) rfl rfl (by decide) inX6_makes_6 lkX6_makes_21 rfl rfl dX6_makes_86 ?_
    refine v_aload_n C dX6_makes_89 rfl 0 rfl ?_
    refine v_get C 0 (kf := 2) rfl rfl (by decide) inX6_makes_6 lkX6_makes_13 rfl rfl dX6_makes_90 ?_
    refine v_iload_n C dX6_makes_93 rfl 2 rfl ?_
    refine v_iast C 3 (cm) (wMM g mm b1 b2 b3 b4 b5 b6 b7 b8 b9 b10 b11 b12 b13 b14 b15 b16 b17 kinds ni cm (updZ first (cm) (((hds (b0) : Nat) : Int))) (updZ second (cm) (-1)) An An (rowP Tm cm ni (fun i => Tm (12 * hds (b0) + i))) (rowP Tm cm ni (fun i => Tm (12 * hds (b0) + i))) bc hds tgs qc qi qo qs cn vals Nw Nw Kw Kw cd ++ ([])) rfl rfl (by omega) (by decide) dX6_makes_94 rfl ?_
    refine v_aload_n C dX6_makes_95 rfl 0 rfl ?_
    refine v_get C 0 (kf := 5) rfl rfl (by decide) inX6_makes_6 lkX6_makes_24 rfl rfl dX6_makes_96 ?_
    refine v_aload_n C dX6_makes_99 rfl 0 rfl ?_
    refine v_get C 0 (kf := 2) rfl rfl (by decide) inX6_makes_6 lkX6_makes_13 rfl rfl dX6_makes_100 ?_
    refine v_aload_n C dX6_makes_103 rfl 0 rfl ?_
    refine v_get C 0 (kf := 5) rfl rfl (by decide) inX6_makes_6 lkX6_makes_24 rfl rfl dX6_makes_104 ?_
    refine v_iload_n C dX6_makes_107 rfl 3 rfl ?_
    refine v_lald C 4 (hds (b0)) rfl rfl (by omega) (by decide) dX6_makes_108 ?_
    refine v_iload_n C dX6_makes_109 rfl 2 rfl ?_
    refine v_if_ge C 117 dX6_makes_110 (by decide) (b31_lit _ rfl) (fun h => absurd h (by decide)) (fun _ => ?_)
    refine v_lconst C (v := lN 0) dX6_makes_113 rfl ?_
    refine v_goto C 123 dX6_makes_114 (by decide) ?_
    refine v_st (st' := [.long (loM (0)), .long (loM (An (hds (b0)))), .int (iI ((cm : Nat) : Int)), .ref (b4)]) rfl ?_
    refine v_lor_ml C dX6_makes_123 ?_
    refine v_last C 4 (cm) (xml (updN An (cm) ((An (hds (b0))) ||| 0))) (wMM g mm b1 b2 b3 b4 b5 b6 b7 b8 b9 b10 b11 b12 b13 b14 b15 b16 b17 kinds ni cm (updZ first (cm) (((hds (b0) : Nat) : Int))) (updZ second (cm) (-1)) (updN An (cm) ((An (hds (b0))) ||| 0)) An (rowP Tm cm ni (fun i => Tm (12 * hds (b0) + i))) (rowP Tm cm ni (fun i => Tm (12 * hds (b0) + i))) bc hds tgs qc qi qo qs cn vals Nw Nw Kw Kw cd ++ ([])) rfl rfl (by omega) (by decide) dX6_makes_124 (xml_upd _ _ _) rfl ?_
    refine v_aload_n C dX6_makes_125 rfl 0 rfl ?_
    refine v_get C 0 (kf := 6) rfl rfl (by decide) inX6_makes_6 lkX6_makes_28 rfl rfl dX6_makes_126 ?_
    refine v_aload_n C dX6_makes_129 rfl 0 rfl ?_
    refine v_get C 0 (kf := 2) rfl rfl (by decide) inX6_makes_6 lkX6_makes_13 rfl rfl dX6_makes_130 ?_
    refine v_aload_n C dX6_makes_133 rfl 0 rfl ?_
    refine v_get C 0 (kf := 6) rfl rfl (by decide) inX6_makes_6 lkX6_makes_28 rfl rfl dX6_makes_134 ?_
    refine v_iload_n C dX6_makes_137 rfl 3 rfl ?_
    refine v_lald C 5 (hds (b0)) rfl rfl (by omega) (by decide) dX6_makes_138 ?_
    refine v_iload_n C dX6_makes_139 rfl 2 rfl ?_
    refine v_if_ge C 147 dX6_makes_140 (by decide) (b31_lit _ rfl) (fun h => absurd h (by decide)) (fun _ => ?_)
    refine v_lconst C (v := lN 0) dX6_makes_143 rfl ?_
    refine v_goto C 153 dX6_makes_144 (by decide) ?_
    refine v_st (st' := [.long (hiM (0)), .long (hiM (An (hds (b0)))), .int (iI ((cm : Nat) : Int)), .ref (b5)]) rfl ?_
    refine v_lor_mh C dX6_makes_153 ?_
    refine v_last C 5 (cm) (xmh (updN An (cm) ((An (hds (b0))) ||| 0))) (wMM g mm b1 b2 b3 b4 b5 b6 b7 b8 b9 b10 b11 b12 b13 b14 b15 b16 b17 kinds ni cm (updZ first (cm) (((hds (b0) : Nat) : Int))) (updZ second (cm) (-1)) (updN An (cm) ((An (hds (b0))) ||| 0)) (updN An (cm) ((An (hds (b0))) ||| 0)) (rowP Tm cm ni (fun i => Tm (12 * hds (b0) + i))) (rowP Tm cm ni (fun i => Tm (12 * hds (b0) + i))) bc hds tgs qc qi qo qs cn vals Nw Nw Kw Kw cd ++ ([])) rfl rfl (by omega) (by decide) dX6_makes_154 (xmh_upd _ _ _) rfl ?_
    refine v_aload_n C dX6_makes_155 rfl 0 rfl ?_
    refine v_get C 0 (kf := 2) rfl rfl (by decide) inX6_makes_6 lkX6_makes_13 rfl rfl dX6_makes_156 ?_
    refine v_bipush C (z := 50) dX6_makes_159 rfl ?_
    refine v_icmp_ge C 185 dX6_makes_161 (by decide) ⟨by omega, by omega⟩ (b31_lit _ rfl) (fun c_2 => ?_) (fun c_2 => ?_)
    ·
      refine v_aload_n C dX6_makes_185 rfl 0 rfl ?_
      refine v_get C 0 (kf := 6) rfl rfl (by decide) inX6_makes_6 lkX6_makes_28 rfl rfl dX6_makes_186 ?_
      refine v_aload_n C dX6_makes_189 rfl 0 rfl ?_
      refine v_get C 0 (kf := 2) rfl rfl (by decide) inX6_makes_6 lkX6_makes_13 rfl rfl dX6_makes_190 ?_
      refine v_dup2 C dX6_makes_193 rfl rfl ?_
      refine v_lald C 5 (cm) rfl rfl (by omega) (by decide) dX6_makes_194 ?_
      refine v_lconst C (v := lN 1) dX6_makes_195 rfl ?_
      refine v_aload_n C dX6_makes_196 rfl 0 rfl ?_
      refine v_get C 0 (kf := 2) rfl rfl (by decide) inX6_makes_6 lkX6_makes_13 rfl rfl dX6_makes_197 ?_
      refine v_bipush C (z := 50) dX6_makes_200 rfl ?_
      refine v_isub C dX6_makes_202 ?_
      rw [show (((cm : Nat) : Int)) - 50 = ((cm - 50 : Nat) : Int) by omega]
      refine v_lshl C dX6_makes_203 (hiM_bit (by omega) (by omega)) ?_
      refine v_lor_mh C dX6_makes_204 ?_
      refine v_last C 5 (cm) (xmh (updN (updN An (cm) ((An (hds (b0))) ||| 0)) (cm) (((updN An (cm) ((An (hds (b0))) ||| 0)) (cm)) ||| (2 ^ cm)))) (wMM g mm b1 b2 b3 b4 b5 b6 b7 b8 b9 b10 b11 b12 b13 b14 b15 b16 b17 kinds ni cm (updZ first (cm) (((hds (b0) : Nat) : Int))) (updZ second (cm) (-1)) (updN An (cm) ((An (hds (b0))) ||| 0)) (updN (updN An (cm) ((An (hds (b0))) ||| 0)) (cm) (((updN An (cm) ((An (hds (b0))) ||| 0)) (cm)) ||| (2 ^ cm))) (rowP Tm cm ni (fun i => Tm (12 * hds (b0) + i))) (rowP Tm cm ni (fun i => Tm (12 * hds (b0) + i))) bc hds tgs qc qi qo qs cn vals Nw Nw Kw Kw cd ++ ([])) rfl rfl (by omega) (by decide) dX6_makes_205 (xmh_upd _ _ _) rfl ?_
      have han := anc_hi (a := (An (hds (b0)) ||| 0)) (show 50 ≤ cm by omega) (An := An)
      have hz9 : An (hds (b0)) ||| 0 = An (hds (b0)) := Nat.or_zero _
      refine v_ws (ws' := wMM g mm b1 b2 b3 b4 b5 b6 b7 b8 b9 b10 b11 b12 b13 b14 b15 b16 b17 kinds ni cm (updZ first (cm) (((hds (b0) : Nat) : Int))) (updZ second (cm) (-1)) (updN An (cm) (An (hds (b0)) ||| 2 ^ cm)) (updN An (cm) (An (hds (b0)) ||| 2 ^ cm)) (rowP Tm cm ni (fun i => Tm (12 * hds (b0) + i))) (rowP Tm cm ni (fun i => Tm (12 * hds (b0) + i))) bc hds tgs qc qi qo qs cn vals Nw Nw Kw Kw cd ++ ([])) (congrArg (· ++ []) (wMM_h g (by rw [han.1, hz9]) (by rw [han.2, hz9]) rfl rfl)) ?_
      refine v_aload_n C dX6_makes_206 rfl 0 rfl ?_
      refine v_get C 0 (kf := 10) rfl rfl (by decide) inX6_makes_6 lkX6_makes_40 rfl rfl dX6_makes_207 ?_
      refine v_iload_n C dX6_makes_210 rfl 1 rfl ?_
      refine v_aload_n C dX6_makes_211 rfl 0 rfl ?_
      refine v_get C 0 (kf := 2) rfl rfl (by decide) inX6_makes_6 lkX6_makes_13 rfl rfl dX6_makes_212 ?_
      refine v_iastn C 8 (b0) (wMM g mm b1 b2 b3 b4 b5 b6 b7 b8 b9 b10 b11 b12 b13 b14 b15 b16 b17 kinds ni cm (updZ first (cm) (((hds (b0) : Nat) : Int))) (updZ second (cm) (-1)) (updN An (cm) (An (hds (b0)) ||| 2 ^ cm)) (updN An (cm) (An (hds (b0)) ||| 2 ^ cm)) (rowP Tm cm ni (fun i => Tm (12 * hds (b0) + i))) (rowP Tm cm ni (fun i => Tm (12 * hds (b0) + i))) bc (updN hds (b0) (cm)) tgs qc qi qo qs cn vals Nw Nw Kw Kw cd ++ ([])) rfl rfl (by omega) (by decide) dX6_makes_215 rfl ?_
      refine v_aload_n C dX6_makes_216 rfl 0 rfl ?_
      refine v_dup C dX6_makes_217 rfl ?_
      refine v_get C 0 (kf := 2) rfl rfl (by decide) inX6_makes_6 lkX6_makes_13 rfl rfl dX6_makes_218 ?_
      refine v_iconst C (z := 1) dX6_makes_221 ?_
      refine v_iadd C dX6_makes_222 ?_
      rw [show (((cm : Nat) : Int)) + 1 = ((cm + 1 : Nat) : Int) from rfl]
      refine v_put C 0 (kf := 2) (wMM g mm b1 b2 b3 b4 b5 b6 b7 b8 b9 b10 b11 b12 b13 b14 b15 b16 b17 kinds ni (cm + 1) (updZ first (cm) (((hds (b0) : Nat) : Int))) (updZ second (cm) (-1)) (updN An (cm) (An (hds (b0)) ||| 2 ^ cm)) (updN An (cm) (An (hds (b0)) ||| 2 ^ cm)) (rowP Tm cm ni (fun i => Tm (12 * hds (b0) + i))) (rowP Tm cm ni (fun i => Tm (12 * hds (b0) + i))) bc (updN hds (b0) (cm)) tgs qc qi qo qs cn vals Nw Nw Kw Kw cd ++ ([])) rfl rfl (by decide) inX6_makes_6 lkX6_makes_13 rfl tyX6_ok nmX6 rfl rfl rfl (Nat.le_of_ble_eq_true rfl) dX6_makes_223 rfl ?_
      refine v_aload_n C dX6_makes_226 rfl 0 rfl ?_
      refine v_get C 0 (kf := 2) rfl rfl (by decide) inX6_makes_6 lkX6_makes_13 rfl rfl dX6_makes_227 ?_
      refine v_iconst C (z := 1) dX6_makes_230 ?_
      refine v_isub C dX6_makes_231 ?_
      exact (v_iret C hr hl () (by decide) (by decide) rfl (congrArg iI (by omega)) dX6_makes_232)
    ·
      refine v_aload_n C dX6_makes_164 rfl 0 rfl ?_
      refine v_get C 0 (kf := 5) rfl rfl (by decide) inX6_makes_6 lkX6_makes_24 rfl rfl dX6_makes_165 ?_
      refine v_aload_n C dX6_makes_168 rfl 0 rfl ?_
      refine v_get C 0 (kf := 2) rfl rfl (by decide) inX6_makes_6 lkX6_makes_13 rfl rfl dX6_makes_169 ?_
      refine v_dup2 C dX6_makes_172 rfl rfl ?_
      refine v_lald C 4 (cm) rfl rfl (by omega) (by decide) dX6_makes_173 ?_
      refine v_lconst C (v := lN 1) dX6_makes_174 rfl ?_
      refine v_aload_n C dX6_makes_175 rfl 0 rfl ?_
      refine v_get C 0 (kf := 2) rfl rfl (by decide) inX6_makes_6 lkX6_makes_13 rfl rfl dX6_makes_176 ?_
      refine v_lshl C dX6_makes_179 (loM_bit (by omega)) ?_
      refine v_lor_ml C dX6_makes_180 ?_
      refine v_last C 4 (cm) (xml (updN (updN An (cm) ((An (hds (b0))) ||| 0)) (cm) (((updN An (cm) ((An (hds (b0))) ||| 0)) (cm)) ||| (2 ^ cm)))) (wMM g mm b1 b2 b3 b4 b5 b6 b7 b8 b9 b10 b11 b12 b13 b14 b15 b16 b17 kinds ni cm (updZ first (cm) (((hds (b0) : Nat) : Int))) (updZ second (cm) (-1)) (updN (updN An (cm) ((An (hds (b0))) ||| 0)) (cm) (((updN An (cm) ((An (hds (b0))) ||| 0)) (cm)) ||| (2 ^ cm))) (updN An (cm) ((An (hds (b0))) ||| 0)) (rowP Tm cm ni (fun i => Tm (12 * hds (b0) + i))) (rowP Tm cm ni (fun i => Tm (12 * hds (b0) + i))) bc hds tgs qc qi qo qs cn vals Nw Nw Kw Kw cd ++ ([])) rfl rfl (by omega) (by decide) dX6_makes_181 (xml_upd _ _ _) rfl ?_
      refine v_goto C 206 dX6_makes_182 (by decide) ?_
      have han := anc_lo (a := (An (hds (b0)) ||| 0)) (show cm < 50 by omega) (An := An)
      have hz9 : An (hds (b0)) ||| 0 = An (hds (b0)) := Nat.or_zero _
      refine v_ws (ws' := wMM g mm b1 b2 b3 b4 b5 b6 b7 b8 b9 b10 b11 b12 b13 b14 b15 b16 b17 kinds ni cm (updZ first (cm) (((hds (b0) : Nat) : Int))) (updZ second (cm) (-1)) (updN An (cm) (An (hds (b0)) ||| 2 ^ cm)) (updN An (cm) (An (hds (b0)) ||| 2 ^ cm)) (rowP Tm cm ni (fun i => Tm (12 * hds (b0) + i))) (rowP Tm cm ni (fun i => Tm (12 * hds (b0) + i))) bc hds tgs qc qi qo qs cn vals Nw Nw Kw Kw cd ++ ([])) (congrArg (· ++ []) (wMM_h g (by rw [han.1, hz9]) (by rw [han.2, hz9]) rfl rfl)) ?_
      refine v_aload_n C dX6_makes_206 rfl 0 rfl ?_
      refine v_get C 0 (kf := 10) rfl rfl (by decide) inX6_makes_6 lkX6_makes_40 rfl rfl dX6_makes_207 ?_
      refine v_iload_n C dX6_makes_210 rfl 1 rfl ?_
      refine v_aload_n C dX6_makes_211 rfl 0 rfl ?_
      refine v_get C 0 (kf := 2) rfl rfl (by decide) inX6_makes_6 lkX6_makes_13 rfl rfl dX6_makes_212 ?_
      refine v_iastn C 8 (b0) (wMM g mm b1 b2 b3 b4 b5 b6 b7 b8 b9 b10 b11 b12 b13 b14 b15 b16 b17 kinds ni cm (updZ first (cm) (((hds (b0) : Nat) : Int))) (updZ second (cm) (-1)) (updN An (cm) (An (hds (b0)) ||| 2 ^ cm)) (updN An (cm) (An (hds (b0)) ||| 2 ^ cm)) (rowP Tm cm ni (fun i => Tm (12 * hds (b0) + i))) (rowP Tm cm ni (fun i => Tm (12 * hds (b0) + i))) bc (updN hds (b0) (cm)) tgs qc qi qo qs cn vals Nw Nw Kw Kw cd ++ ([])) rfl rfl (by omega) (by decide) dX6_makes_215 rfl ?_
      refine v_aload_n C dX6_makes_216 rfl 0 rfl ?_
      refine v_dup C dX6_makes_217 rfl ?_
      refine v_get C 0 (kf := 2) rfl rfl (by decide) inX6_makes_6 lkX6_makes_13 rfl rfl dX6_makes_218 ?_
      refine v_iconst C (z := 1) dX6_makes_221 ?_
      refine v_iadd C dX6_makes_222 ?_
      rw [show (((cm : Nat) : Int)) + 1 = ((cm + 1 : Nat) : Int) from rfl]
      refine v_put C 0 (kf := 2) (wMM g mm b1 b2 b3 b4 b5 b6 b7 b8 b9 b10 b11 b12 b13 b14 b15 b16 b17 kinds ni (cm + 1) (updZ first (cm) (((hds (b0) : Nat) : Int))) (updZ second (cm) (-1)) (updN An (cm) (An (hds (b0)) ||| 2 ^ cm)) (updN An (cm) (An (hds (b0)) ||| 2 ^ cm)) (rowP Tm cm ni (fun i => Tm (12 * hds (b0) + i))) (rowP Tm cm ni (fun i => Tm (12 * hds (b0) + i))) bc (updN hds (b0) (cm)) tgs qc qi qo qs cn vals Nw Nw Kw Kw cd ++ ([])) rfl rfl (by decide) inX6_makes_6 lkX6_makes_13 rfl tyX6_ok nmX6 rfl rfl rfl (Nat.le_of_ble_eq_true rfl) dX6_makes_223 rfl ?_
      refine v_aload_n C dX6_makes_226 rfl 0 rfl ?_
      refine v_get C 0 (kf := 2) rfl rfl (by decide) inX6_makes_6 lkX6_makes_13 rfl rfl dX6_makes_227 ?_
      refine v_iconst C (z := 1) dX6_makes_230 ?_
      refine v_isub C dX6_makes_231 ?_
      exact (v_iret C hr hl () (by decide) (by decide) rfl (congrArg iI (by omega)) dX6_makes_232)
  ·
    refine v_aload_n C dX6_makes_19 rfl 0 rfl ?_
    refine v_get C 0 (kf := 7) rfl rfl (by decide) inX6_makes_6 lkX6_makes_31 rfl rfl dX6_makes_20 ?_
    refine v_aload_n C dX6_makes_23 rfl 0 rfl ?_
    refine v_get C 0 (kf := 2) rfl rfl (by decide) inX6_makes_6 lkX6_makes_13 rfl rfl dX6_makes_24 ?_
    refine v_iload C dX6_makes_27 4 rfl ?_
    refine v_invSI C (As := [.int (iI ((cm : Nat) : Int)), .int (iI ((q : Nat) : Int))]) (kX6_at l g  (r0 := cm) (i0 := q) ) (cwS 2 C.2.2.2.2.1 gX6_makes_X6_at rfl rfl rfl (by decide +kernel) ⟨Nat.le_of_ble_eq_true rfl, Nat.le_of_ble_eq_true rfl⟩) [wMM g mm b1 b2 b3 b4 b5 b6 b7 b8 b9 b10 b11 b12 b13 b14 b15 b16 b17 kinds ni cm first second An An (rowP Tm cm q (fun i => Tm (12 * hds (b0) + i))) (rowP Tm cm q (fun i => Tm (12 * hds (b0) + i))) bc hds tgs qc qi qo qs cn vals Nw Nw Kw Kw cd] [] [0] [.ref (b6)] (fun _ => [wMM g mm b1 b2 b3 b4 b5 b6 b7 b8 b9 b10 b11 b12 b13 b14 b15 b16 b17 kinds ni cm first second An An (rowP Tm cm q (fun i => Tm (12 * hds (b0) + i))) (rowP Tm cm q (fun i => Tm (12 * hds (b0) + i))) bc hds tgs qc qi qo qs cn vals Nw Nw Kw Kw cd]) (fun _ => wMM g mm b1 b2 b3 b4 b5 b6 b7 b8 b9 b10 b11 b12 b13 b14 b15 b16 b17 kinds ni cm first second An An (rowP Tm cm q (fun i => Tm (12 * hds (b0) + i))) (rowP Tm cm q (fun i => Tm (12 * hds (b0) + i))) bc hds tgs qc qi qo qs cn vals Nw Nw Kw Kw cd ++ ([])) rfl rfl rfl (fun _ => rfl) (fun _ => rfl) (fun _ => rfl) (fun _ => rfl) rfl rfl (Nat.le_of_ble_eq_true rfl) dX6_makes_29 ⟨by decide, by decide⟩ (fun r_4 _ h_3 => ?_)
    subst h_3
    refine v_aload_n C dX6_makes_32 rfl 0 rfl ?_
    refine v_get C 0 (kf := 7) rfl rfl (by decide) inX6_makes_6 lkX6_makes_31 rfl rfl dX6_makes_33 ?_
    refine v_iload_n C dX6_makes_36 rfl 3 rfl ?_
    refine v_iload C dX6_makes_37 4 rfl ?_
    refine v_invSI C (As := [.int (iI ((hds (b0) : Nat) : Int)), .int (iI ((q : Nat) : Int))]) (kX6_at l g  (r0 := hds (b0)) (i0 := q) ) (cwS 2 C.2.2.2.2.1 gX6_makes_X6_at rfl rfl rfl (by decide +kernel) ⟨Nat.le_of_ble_eq_true rfl, Nat.le_of_ble_eq_true rfl⟩) [wMM g mm b1 b2 b3 b4 b5 b6 b7 b8 b9 b10 b11 b12 b13 b14 b15 b16 b17 kinds ni cm first second An An (rowP Tm cm q (fun i => Tm (12 * hds (b0) + i))) (rowP Tm cm q (fun i => Tm (12 * hds (b0) + i))) bc hds tgs qc qi qo qs cn vals Nw Nw Kw Kw cd] [] [0] [.ref (b6), .int (iI ((12 * cm + q : Nat) : Int)), .ref (b6)] (fun _ => [wMM g mm b1 b2 b3 b4 b5 b6 b7 b8 b9 b10 b11 b12 b13 b14 b15 b16 b17 kinds ni cm first second An An (rowP Tm cm q (fun i => Tm (12 * hds (b0) + i))) (rowP Tm cm q (fun i => Tm (12 * hds (b0) + i))) bc hds tgs qc qi qo qs cn vals Nw Nw Kw Kw cd]) (fun _ => wMM g mm b1 b2 b3 b4 b5 b6 b7 b8 b9 b10 b11 b12 b13 b14 b15 b16 b17 kinds ni cm first second An An (rowP Tm cm q (fun i => Tm (12 * hds (b0) + i))) (rowP Tm cm q (fun i => Tm (12 * hds (b0) + i))) bc hds tgs qc qi qo qs cn vals Nw Nw Kw Kw cd ++ ([])) rfl rfl rfl (fun _ => rfl) (fun _ => rfl) (fun _ => rfl) (fun _ => rfl) rfl rfl (Nat.le_of_ble_eq_true rfl) dX6_makes_39 ⟨by decide, by decide⟩ (fun r_6 _ h_5 => ?_)
    subst h_5
    refine v_lald C 6 (12 * (hds (b0)) + q) rfl rfl (by omega) (by decide) dX6_makes_42 ?_
    refine v_last C 6 (12 * cm + q) (xml (updN (rowP Tm cm q (fun i => Tm (12 * hds (b0) + i))) (12 * cm + q) ((rowP Tm cm q (fun i => Tm (12 * hds (b0) + i))) (12 * (hds (b0)) + q)))) (wMM g mm b1 b2 b3 b4 b5 b6 b7 b8 b9 b10 b11 b12 b13 b14 b15 b16 b17 kinds ni cm first second An An (updN (rowP Tm cm q (fun i => Tm (12 * hds (b0) + i))) (12 * cm + q) ((rowP Tm cm q (fun i => Tm (12 * hds (b0) + i))) (12 * (hds (b0)) + q))) (rowP Tm cm q (fun i => Tm (12 * hds (b0) + i))) bc hds tgs qc qi qo qs cn vals Nw Nw Kw Kw cd ++ ([])) rfl rfl (by omega) (by decide) dX6_makes_43 (xml_upd _ _ _) rfl ?_
    refine v_aload_n C dX6_makes_44 rfl 0 rfl ?_
    refine v_get C 0 (kf := 8) rfl rfl (by decide) inX6_makes_6 lkX6_makes_34 rfl rfl dX6_makes_45 ?_
    refine v_aload_n C dX6_makes_48 rfl 0 rfl ?_
    refine v_get C 0 (kf := 2) rfl rfl (by decide) inX6_makes_6 lkX6_makes_13 rfl rfl dX6_makes_49 ?_
    refine v_iload C dX6_makes_52 4 rfl ?_
    refine v_invSI C (As := [.int (iI ((cm : Nat) : Int)), .int (iI ((q : Nat) : Int))]) (kX6_at l g  (r0 := cm) (i0 := q) ) (cwS 2 C.2.2.2.2.1 gX6_makes_X6_at rfl rfl rfl (by decide +kernel) ⟨Nat.le_of_ble_eq_true rfl, Nat.le_of_ble_eq_true rfl⟩) [wMM g mm b1 b2 b3 b4 b5 b6 b7 b8 b9 b10 b11 b12 b13 b14 b15 b16 b17 kinds ni cm first second An An (updN (rowP Tm cm q (fun i => Tm (12 * hds (b0) + i))) (12 * cm + q) ((rowP Tm cm q (fun i => Tm (12 * hds (b0) + i))) (12 * (hds (b0)) + q))) (rowP Tm cm q (fun i => Tm (12 * hds (b0) + i))) bc hds tgs qc qi qo qs cn vals Nw Nw Kw Kw cd] [] [0] [.ref (b7)] (fun _ => [wMM g mm b1 b2 b3 b4 b5 b6 b7 b8 b9 b10 b11 b12 b13 b14 b15 b16 b17 kinds ni cm first second An An (updN (rowP Tm cm q (fun i => Tm (12 * hds (b0) + i))) (12 * cm + q) ((rowP Tm cm q (fun i => Tm (12 * hds (b0) + i))) (12 * (hds (b0)) + q))) (rowP Tm cm q (fun i => Tm (12 * hds (b0) + i))) bc hds tgs qc qi qo qs cn vals Nw Nw Kw Kw cd]) (fun _ => wMM g mm b1 b2 b3 b4 b5 b6 b7 b8 b9 b10 b11 b12 b13 b14 b15 b16 b17 kinds ni cm first second An An (updN (rowP Tm cm q (fun i => Tm (12 * hds (b0) + i))) (12 * cm + q) ((rowP Tm cm q (fun i => Tm (12 * hds (b0) + i))) (12 * (hds (b0)) + q))) (rowP Tm cm q (fun i => Tm (12 * hds (b0) + i))) bc hds tgs qc qi qo qs cn vals Nw Nw Kw Kw cd ++ ([])) rfl rfl rfl (fun _ => rfl) (fun _ => rfl) (fun _ => rfl) (fun _ => rfl) rfl rfl (Nat.le_of_ble_eq_true rfl) dX6_makes_54 ⟨by decide, by decide⟩ (fun r_8 _ h_7 => ?_)
    subst h_7
    refine v_aload_n C dX6_makes_57 rfl 0 rfl ?_
    refine v_get C 0 (kf := 8) rfl rfl (by decide) inX6_makes_6 lkX6_makes_34 rfl rfl dX6_makes_58 ?_
    refine v_iload_n C dX6_makes_61 rfl 3 rfl ?_
    refine v_iload C dX6_makes_62 4 rfl ?_
    refine v_invSI C (As := [.int (iI ((hds (b0) : Nat) : Int)), .int (iI ((q : Nat) : Int))]) (kX6_at l g  (r0 := hds (b0)) (i0 := q) ) (cwS 2 C.2.2.2.2.1 gX6_makes_X6_at rfl rfl rfl (by decide +kernel) ⟨Nat.le_of_ble_eq_true rfl, Nat.le_of_ble_eq_true rfl⟩) [wMM g mm b1 b2 b3 b4 b5 b6 b7 b8 b9 b10 b11 b12 b13 b14 b15 b16 b17 kinds ni cm first second An An (updN (rowP Tm cm q (fun i => Tm (12 * hds (b0) + i))) (12 * cm + q) ((rowP Tm cm q (fun i => Tm (12 * hds (b0) + i))) (12 * (hds (b0)) + q))) (rowP Tm cm q (fun i => Tm (12 * hds (b0) + i))) bc hds tgs qc qi qo qs cn vals Nw Nw Kw Kw cd] [] [0] [.ref (b7), .int (iI ((12 * cm + q : Nat) : Int)), .ref (b7)] (fun _ => [wMM g mm b1 b2 b3 b4 b5 b6 b7 b8 b9 b10 b11 b12 b13 b14 b15 b16 b17 kinds ni cm first second An An (updN (rowP Tm cm q (fun i => Tm (12 * hds (b0) + i))) (12 * cm + q) ((rowP Tm cm q (fun i => Tm (12 * hds (b0) + i))) (12 * (hds (b0)) + q))) (rowP Tm cm q (fun i => Tm (12 * hds (b0) + i))) bc hds tgs qc qi qo qs cn vals Nw Nw Kw Kw cd]) (fun _ => wMM g mm b1 b2 b3 b4 b5 b6 b7 b8 b9 b10 b11 b12 b13 b14 b15 b16 b17 kinds ni cm first second An An (updN (rowP Tm cm q (fun i => Tm (12 * hds (b0) + i))) (12 * cm + q) ((rowP Tm cm q (fun i => Tm (12 * hds (b0) + i))) (12 * (hds (b0)) + q))) (rowP Tm cm q (fun i => Tm (12 * hds (b0) + i))) bc hds tgs qc qi qo qs cn vals Nw Nw Kw Kw cd ++ ([])) rfl rfl rfl (fun _ => rfl) (fun _ => rfl) (fun _ => rfl) (fun _ => rfl) rfl rfl (Nat.le_of_ble_eq_true rfl) dX6_makes_64 ⟨by decide, by decide⟩ (fun r_10 _ h_9 => ?_)
    subst h_9
    refine v_lald C 7 (12 * (hds (b0)) + q) rfl rfl (by omega) (by decide) dX6_makes_67 ?_
    refine v_last C 7 (12 * cm + q) (xmh (updN (rowP Tm cm q (fun i => Tm (12 * hds (b0) + i))) (12 * cm + q) ((rowP Tm cm q (fun i => Tm (12 * hds (b0) + i))) (12 * (hds (b0)) + q)))) (wMM g mm b1 b2 b3 b4 b5 b6 b7 b8 b9 b10 b11 b12 b13 b14 b15 b16 b17 kinds ni cm first second An An (updN (rowP Tm cm q (fun i => Tm (12 * hds (b0) + i))) (12 * cm + q) ((rowP Tm cm q (fun i => Tm (12 * hds (b0) + i))) (12 * (hds (b0)) + q))) (updN (rowP Tm cm q (fun i => Tm (12 * hds (b0) + i))) (12 * cm + q) ((rowP Tm cm q (fun i => Tm (12 * hds (b0) + i))) (12 * (hds (b0)) + q))) bc hds tgs qc qi qo qs cn vals Nw Nw Kw Kw cd ++ ([])) rfl rfl (by omega) (by decide) dX6_makes_68 (xmh_upd _ _ _) rfl ?_
    refine v_iinc C [(4, .int (iI (((q : Nat) : Int) + 1))), (0, .ref (mm)), (1, .int (iI ((b0 : Nat) : Int))), (2, .int (iI (-1))), (3, .int (iI ((hds (b0) : Nat) : Int)))] dX6_makes_69 4 rfl (by decide) rfl ?_
    rw [show ((q : Nat) : Int) + 1 = ((q + 1 : Nat) : Int) from rfl]
    refine v_goto C 10 dX6_makes_72 (by decide) ?_
    refine v_lv (lv' := [(0, .ref (mm)), (1, .int (iI ((b0 : Nat) : Int))), (2, .int (iI (-1))), (3, .int (iI ((hds (b0) : Nat) : Int))), (4, .int (iI ((q + 1 : Nat) : Int)))]) [1, 2, 3, 4, 0] rfl ?_
    refine v_ws (ws' := wMM g mm b1 b2 b3 b4 b5 b6 b7 b8 b9 b10 b11 b12 b13 b14 b15 b16 b17 kinds ni cm first second An An (rowP Tm cm (q + 1) (fun i => Tm (12 * hds (b0) + i))) (rowP Tm cm (q + 1) (fun i => Tm (12 * hds (b0) + i))) bc hds tgs qc qi qo qs cn vals Nw Nw Kw Kw cd ++ ([])) (by rw [cp_step (by omega) (by omega)]) ?_
    exact ih10 (q + 1) (by omega) (by omega)
set_option maxHeartbeats 4000000 in
set_option maxRecDepth 100000 in
theorem kX6_makes_s (l : Launch) (g : vG) {mm b1 b2 b3 b4 b5 b6 b7 b8 b9 b10 b11 b12 b13 b14 b15 b16 b17 : Nat} {kinds tgs first second vals qs : Nat → Int} {hds An qi qo Tm Nw Kw ris : Nat → Nat} {ni bc cm cn qc cd : Nat} {b0 k0 : Nat} (hb0 : b0 < 5) (hni : ni ≤ 12) (hh : hds (b0) < cm) (hcm : cm < 100) (hk0 : k0 < 100) : mI l g yX6_makes wsX6_makes ({ frames := 1, cells := 0, slots := 0, locals := 21 }) [.ref (mm), .int (iI ((b0 : Nat) : Int)), .int (iI ((k0 : Nat) : Int))] (wMM g mm b1 b2 b3 b4 b5 b6 b7 b8 b9 b10 b11 b12 b13 b14 b15 b16 b17 kinds ni cm first second An An Tm Tm bc hds tgs qc qi qo qs cn vals Nw Nw Kw Kw cd ++ ([])) (fun _ : Unit => wMM g mm b1 b2 b3 b4 b5 b6 b7 b8 b9 b10 b11 b12 b13 b14 b15 b16 b17 kinds ni (cm + 1) (updZ first (cm) (((hds (b0) : Nat) : Int))) (updZ second (cm) (((k0 : Nat) : Int))) (updN An (cm) ((An (hds (b0)) ||| An (k0)) ||| 2 ^ cm)) (updN An (cm) ((An (hds (b0)) ||| An (k0)) ||| 2 ^ cm)) (rowP Tm cm ni (fun i => Tm (12 * hds (b0) + i))) (rowP Tm cm ni (fun i => Tm (12 * hds (b0) + i))) bc (updN hds (b0) (cm)) tgs qc qi qo qs cn vals Nw Nw Kw Kw cd ++ ([])) (fun v _ => v = iI ((cm : Nat) : Int)) 0 0 := by
  refine mI_of (cc := cX6_makes) (maxL := 5) (ret := (some .int)) (own := RX6) (by decide) rfl rfl (Nat.le_of_ble_eq_true rfl) ?_
  intro p e s m args below meth c A C hr hl hin
  refine v_aload_n C dX6_makes_0 rfl 0 rfl ?_
  refine v_get C 0 (kf := 10) rfl rfl (by decide) inX6_makes_6 lkX6_makes_40 rfl rfl dX6_makes_1 ?_
  refine v_iload_n C dX6_makes_4 rfl 1 rfl ?_
  refine v_ialdn C 8 (b0) rfl rfl (by omega) (by decide) dX6_makes_5 ?_
  refine v_istore_n C [(3, .int (iI ((hds (b0) : Nat) : Int))), (0, .ref (mm)), (1, .int (iI ((b0 : Nat) : Int))), (2, .int (iI ((k0 : Nat) : Int)))] dX6_makes_6 rfl (by decide) rfl ?_
  refine v_iconst C (z := 0) dX6_makes_7 ?_
  refine v_istore C [(4, .int (iI (0))), (3, .int (iI ((hds (b0) : Nat) : Int))), (0, .ref (mm)), (1, .int (iI ((b0 : Nat) : Int))), (2, .int (iI ((k0 : Nat) : Int)))] dX6_makes_8 (by decide) rfl ?_
  refine v_lv (lv' := [(0, .ref (mm)), (1, .int (iI ((b0 : Nat) : Int))), (2, .int (iI ((k0 : Nat) : Int))), (3, .int (iI ((hds (b0) : Nat) : Int))), (4, .int (iI ((0 : Nat) : Int)))]) [2, 3, 4, 1, 0] rfl ?_
  refine v_ws (ws' := wMM g mm b1 b2 b3 b4 b5 b6 b7 b8 b9 b10 b11 b12 b13 b14 b15 b16 b17 kinds ni cm first second An An (rowP Tm cm 0 (fun i => Tm (12 * hds (b0) + i))) (rowP Tm cm 0 (fun i => Tm (12 * hds (b0) + i))) bc hds tgs qc qi qo qs cn vals Nw Nw Kw Kw cd ++ ([])) (by rw [rowP_0]) ?_
  refine v_lp1 (X := Nat) (fun q => wMM g mm b1 b2 b3 b4 b5 b6 b7 b8 b9 b10 b11 b12 b13 b14 b15 b16 b17 kinds ni cm first second An An (rowP Tm cm q (fun i => Tm (12 * hds (b0) + i))) (rowP Tm cm q (fun i => Tm (12 * hds (b0) + i))) bc hds tgs qc qi qo qs cn vals Nw Nw Kw Kw cd ++ ([])) (fun q => [(0, .ref (mm)), (1, .int (iI ((b0 : Nat) : Int))), (2, .int (iI ((k0 : Nat) : Int))), (3, .int (iI ((hds (b0) : Nat) : Int))), (4, .int (iI ((q : Nat) : Int)))]) (fun q => ni - q) (fun q => q ≤ ni) ?_ (0) (Nat.zero_le _)
  intro q hJ10 ih10
  try dsimp only at hJ10 ⊢
  refine v_iload C dX6_makes_10 4 rfl ?_
  refine v_aload_n C dX6_makes_12 rfl 0 rfl ?_
  refine v_get C 0 (kf := 0) rfl rfl (by decide) inX6_makes_6 lkX6_makes_76 rfl rfl dX6_makes_13 ?_
  refine v_icmp_ge C 75 dX6_makes_16 (by decide) ⟨by omega, by omega⟩ ⟨by omega, by omega⟩ (fun c_1 => ?_) (fun c_1 => ?_)
  ·
    obtain rfl : ni = q := by omega
    refine v_aload_n C dX6_makes_75 rfl 0 rfl ?_
    refine v_get C 0 (kf := 3) rfl rfl (by decide) inX6_makes_6 lkX6_makes_17 rfl rfl dX6_makes_76 ?_
    refine v_aload_n C dX6_makes_79 rfl 0 rfl ?_
    refine v_get C 0 (kf := 2) rfl rfl (by decide) inX6_makes_6 lkX6_makes_13 rfl rfl dX6_makes_80 ?_
    refine v_iload_n C dX6_makes_83 rfl 3 rfl ?_
    refine v_iast C 2 (cm) (wMM g mm b1 b2 b3 b4 b5 b6 b7 b8 b9 b10 b11 b12 b13 b14 b15 b16 b17 kinds ni cm (updZ first (cm) (((hds (b0) : Nat) : Int))) second An An (rowP Tm cm ni (fun i => Tm (12 * hds (b0) + i))) (rowP Tm cm ni (fun i => Tm (12 * hds (b0) + i))) bc hds tgs qc qi qo qs cn vals Nw Nw Kw Kw cd ++ ([])) rfl rfl (by omega) (by decide) dX6_makes_84 rfl ?_
    refine v_aload_n C dX6_makes_85 rfl 0 rfl ?_
    refine v_get C 0 (kf := 4) rfl rfl (by decide) inX6_makes_6 lkX6_makes_21 rfl rfl dX6_makes_86 ?_
    refine v_aload_n C dX6_makes_89 rfl 0 rfl ?_
    refine v_get C 0 (kf := 2) rfl rfl (by decide) inX6_makes_6 lkX6_makes_13 rfl rfl dX6_makes_90 ?_
    refine v_iload_n C dX6_makes_93 rfl 2 rfl ?_
    refine v_iast C 3 (cm) (wMM g mm b1 b2 b3 b4 b5 b6 b7 b8 b9 b10 b11 b12 b13 b14 b15 b16 b17 kinds ni cm (updZ first (cm) (((hds (b0) : Nat) : Int))) (updZ second (cm) (((k0 : Nat) : Int))) An An (rowP Tm cm ni (fun i => Tm (12 * hds (b0) + i))) (rowP Tm cm ni (fun i => Tm (12 * hds (b0) + i))) bc hds tgs qc qi qo qs cn vals Nw Nw Kw Kw cd ++ ([])) rfl rfl (by omega) (by decide) dX6_makes_94 rfl ?_
    refine v_aload_n C dX6_makes_95 rfl 0 rfl ?_
    refine v_get C 0 (kf := 5) rfl rfl (by decide) inX6_makes_6 lkX6_makes_24 rfl rfl dX6_makes_96 ?_
    refine v_aload_n C dX6_makes_99 rfl 0 rfl ?_
    refine v_get C 0 (kf := 2) rfl rfl (by decide) inX6_makes_6 lkX6_makes_13 rfl rfl dX6_makes_100 ?_
    refine v_aload_n C dX6_makes_103 rfl 0 rfl ?_
    refine v_get C 0 (kf := 5) rfl rfl (by decide) inX6_makes_6 lkX6_makes_24 rfl rfl dX6_makes_104 ?_
    refine v_iload_n C dX6_makes_107 rfl 3 rfl ?_
    refine v_lald C 4 (hds (b0)) rfl rfl (by omega) (by decide) dX6_makes_108 ?_
    refine v_iload_n C dX6_makes_109 rfl 2 rfl ?_
    refine v_if_ge C 117 dX6_makes_110 (by decide) ⟨by omega, by omega⟩ (fun c_2 => ?_) (fun c_2 => ?_)
    ·
      refine v_aload_n C dX6_makes_117 rfl 0 rfl ?_
      refine v_get C 0 (kf := 5) rfl rfl (by decide) inX6_makes_6 lkX6_makes_24 rfl rfl dX6_makes_118 ?_
      refine v_iload_n C dX6_makes_121 rfl 2 rfl ?_
      refine v_lald C 4 (k0) rfl rfl (by omega) (by decide) dX6_makes_122 ?_
      refine v_lor_ml C dX6_makes_123 ?_
      refine v_last C 4 (cm) (xml (updN An (cm) ((An (hds (b0))) ||| (An (k0))))) (wMM g mm b1 b2 b3 b4 b5 b6 b7 b8 b9 b10 b11 b12 b13 b14 b15 b16 b17 kinds ni cm (updZ first (cm) (((hds (b0) : Nat) : Int))) (updZ second (cm) (((k0 : Nat) : Int))) (updN An (cm) ((An (hds (b0))) ||| (An (k0)))) An (rowP Tm cm ni (fun i => Tm (12 * hds (b0) + i))) (rowP Tm cm ni (fun i => Tm (12 * hds (b0) + i))) bc hds tgs qc qi qo qs cn vals Nw Nw Kw Kw cd ++ ([])) rfl rfl (by omega) (by decide) dX6_makes_124 (xml_upd _ _ _) rfl ?_
      refine v_aload_n C dX6_makes_125 rfl 0 rfl ?_
      refine v_get C 0 (kf := 6) rfl rfl (by decide) inX6_makes_6 lkX6_makes_28 rfl rfl dX6_makes_126 ?_
      refine v_aload_n C dX6_makes_129 rfl 0 rfl ?_
      refine v_get C 0 (kf := 2) rfl rfl (by decide) inX6_makes_6 lkX6_makes_13 rfl rfl dX6_makes_130 ?_
      refine v_aload_n C dX6_makes_133 rfl 0 rfl ?_
      refine v_get C 0 (kf := 6) rfl rfl (by decide) inX6_makes_6 lkX6_makes_28 rfl rfl dX6_makes_134 ?_
      refine v_iload_n C dX6_makes_137 rfl 3 rfl ?_
      refine v_lald C 5 (hds (b0)) rfl rfl (by omega) (by decide) dX6_makes_138 ?_
      refine v_iload_n C dX6_makes_139 rfl 2 rfl ?_
      refine v_if_ge C 147 dX6_makes_140 (by decide) ⟨by omega, by omega⟩ (fun c_3 => ?_) (fun c_3 => ?_)
      ·
        refine v_aload_n C dX6_makes_147 rfl 0 rfl ?_
        refine v_get C 0 (kf := 6) rfl rfl (by decide) inX6_makes_6 lkX6_makes_28 rfl rfl dX6_makes_148 ?_
        refine v_iload_n C dX6_makes_151 rfl 2 rfl ?_
        refine v_lald C 5 (k0) rfl rfl (by omega) (by decide) dX6_makes_152 ?_
        refine v_lor_mh C dX6_makes_153 ?_
        refine v_last C 5 (cm) (xmh (updN An (cm) ((An (hds (b0))) ||| (An (k0))))) (wMM g mm b1 b2 b3 b4 b5 b6 b7 b8 b9 b10 b11 b12 b13 b14 b15 b16 b17 kinds ni cm (updZ first (cm) (((hds (b0) : Nat) : Int))) (updZ second (cm) (((k0 : Nat) : Int))) (updN An (cm) ((An (hds (b0))) ||| (An (k0)))) (updN An (cm) ((An (hds (b0))) ||| (An (k0)))) (rowP Tm cm ni (fun i => Tm (12 * hds (b0) + i))) (rowP Tm cm ni (fun i => Tm (12 * hds (b0) + i))) bc hds tgs qc qi qo qs cn vals Nw Nw Kw Kw cd ++ ([])) rfl rfl (by omega) (by decide) dX6_makes_154 (xmh_upd _ _ _) rfl ?_
        refine v_aload_n C dX6_makes_155 rfl 0 rfl ?_
        refine v_get C 0 (kf := 2) rfl rfl (by decide) inX6_makes_6 lkX6_makes_13 rfl rfl dX6_makes_156 ?_
        refine v_bipush C (z := 50) dX6_makes_159 rfl ?_
        refine v_icmp_ge C 185 dX6_makes_161 (by decide) ⟨by omega, by omega⟩ (b31_lit _ rfl) (fun c_4 => ?_) (fun c_4 => ?_)
        ·
          refine v_aload_n C dX6_makes_185 rfl 0 rfl ?_
          refine v_get C 0 (kf := 6) rfl rfl (by decide) inX6_makes_6 lkX6_makes_28 rfl rfl dX6_makes_186 ?_
          refine v_aload_n C dX6_makes_189 rfl 0 rfl ?_
          refine v_get C 0 (kf := 2) rfl rfl (by decide) inX6_makes_6 lkX6_makes_13 rfl rfl dX6_makes_190 ?_
          refine v_dup2 C dX6_makes_193 rfl rfl ?_
          refine v_lald C 5 (cm) rfl rfl (by omega) (by decide) dX6_makes_194 ?_
          refine v_lconst C (v := lN 1) dX6_makes_195 rfl ?_
          refine v_aload_n C dX6_makes_196 rfl 0 rfl ?_
          refine v_get C 0 (kf := 2) rfl rfl (by decide) inX6_makes_6 lkX6_makes_13 rfl rfl dX6_makes_197 ?_
          refine v_bipush C (z := 50) dX6_makes_200 rfl ?_
          refine v_isub C dX6_makes_202 ?_
          rw [show (((cm : Nat) : Int)) - 50 = ((cm - 50 : Nat) : Int) by omega]
          refine v_lshl C dX6_makes_203 (hiM_bit (by omega) (by omega)) ?_
          refine v_lor_mh C dX6_makes_204 ?_
          refine v_last C 5 (cm) (xmh (updN (updN An (cm) ((An (hds (b0))) ||| (An (k0)))) (cm) (((updN An (cm) ((An (hds (b0))) ||| (An (k0)))) (cm)) ||| (2 ^ cm)))) (wMM g mm b1 b2 b3 b4 b5 b6 b7 b8 b9 b10 b11 b12 b13 b14 b15 b16 b17 kinds ni cm (updZ first (cm) (((hds (b0) : Nat) : Int))) (updZ second (cm) (((k0 : Nat) : Int))) (updN An (cm) ((An (hds (b0))) ||| (An (k0)))) (updN (updN An (cm) ((An (hds (b0))) ||| (An (k0)))) (cm) (((updN An (cm) ((An (hds (b0))) ||| (An (k0)))) (cm)) ||| (2 ^ cm))) (rowP Tm cm ni (fun i => Tm (12 * hds (b0) + i))) (rowP Tm cm ni (fun i => Tm (12 * hds (b0) + i))) bc hds tgs qc qi qo qs cn vals Nw Nw Kw Kw cd ++ ([])) rfl rfl (by omega) (by decide) dX6_makes_205 (xmh_upd _ _ _) rfl ?_
          have han := anc_hi (a := (An (hds (b0)) ||| An (k0))) (show 50 ≤ cm by omega) (An := An)
          refine v_ws (ws' := wMM g mm b1 b2 b3 b4 b5 b6 b7 b8 b9 b10 b11 b12 b13 b14 b15 b16 b17 kinds ni cm (updZ first (cm) (((hds (b0) : Nat) : Int))) (updZ second (cm) (((k0 : Nat) : Int))) (updN An (cm) ((An (hds (b0)) ||| An (k0)) ||| 2 ^ cm)) (updN An (cm) ((An (hds (b0)) ||| An (k0)) ||| 2 ^ cm)) (rowP Tm cm ni (fun i => Tm (12 * hds (b0) + i))) (rowP Tm cm ni (fun i => Tm (12 * hds (b0) + i))) bc hds tgs qc qi qo qs cn vals Nw Nw Kw Kw cd ++ ([])) (congrArg (· ++ []) (wMM_h g han.1 han.2 rfl rfl)) ?_
          refine v_aload_n C dX6_makes_206 rfl 0 rfl ?_
          refine v_get C 0 (kf := 10) rfl rfl (by decide) inX6_makes_6 lkX6_makes_40 rfl rfl dX6_makes_207 ?_
          refine v_iload_n C dX6_makes_210 rfl 1 rfl ?_
          refine v_aload_n C dX6_makes_211 rfl 0 rfl ?_
          refine v_get C 0 (kf := 2) rfl rfl (by decide) inX6_makes_6 lkX6_makes_13 rfl rfl dX6_makes_212 ?_
          refine v_iastn C 8 (b0) (wMM g mm b1 b2 b3 b4 b5 b6 b7 b8 b9 b10 b11 b12 b13 b14 b15 b16 b17 kinds ni cm (updZ first (cm) (((hds (b0) : Nat) : Int))) (updZ second (cm) (((k0 : Nat) : Int))) (updN An (cm) ((An (hds (b0)) ||| An (k0)) ||| 2 ^ cm)) (updN An (cm) ((An (hds (b0)) ||| An (k0)) ||| 2 ^ cm)) (rowP Tm cm ni (fun i => Tm (12 * hds (b0) + i))) (rowP Tm cm ni (fun i => Tm (12 * hds (b0) + i))) bc (updN hds (b0) (cm)) tgs qc qi qo qs cn vals Nw Nw Kw Kw cd ++ ([])) rfl rfl (by omega) (by decide) dX6_makes_215 rfl ?_
          refine v_aload_n C dX6_makes_216 rfl 0 rfl ?_
          refine v_dup C dX6_makes_217 rfl ?_
          refine v_get C 0 (kf := 2) rfl rfl (by decide) inX6_makes_6 lkX6_makes_13 rfl rfl dX6_makes_218 ?_
          refine v_iconst C (z := 1) dX6_makes_221 ?_
          refine v_iadd C dX6_makes_222 ?_
          rw [show (((cm : Nat) : Int)) + 1 = ((cm + 1 : Nat) : Int) from rfl]
          refine v_put C 0 (kf := 2) (wMM g mm b1 b2 b3 b4 b5 b6 b7 b8 b9 b10 b11 b12 b13 b14 b15 b16 b17 kinds ni (cm + 1) (updZ first (cm) (((hds (b0) : Nat) : Int))) (updZ second (cm) (((k0 : Nat) : Int))) (updN An (cm) ((An (hds (b0)) ||| An (k0)) ||| 2 ^ cm)) (updN An (cm) ((An (hds (b0)) ||| An (k0)) ||| 2 ^ cm)) (rowP Tm cm ni (fun i => Tm (12 * hds (b0) + i))) (rowP Tm cm ni (fun i => Tm (12 * hds (b0) + i))) bc (updN hds (b0) (cm)) tgs qc qi qo qs cn vals Nw Nw Kw Kw cd ++ ([])) rfl rfl (by decide) inX6_makes_6 lkX6_makes_13 rfl tyX6_ok nmX6 rfl rfl rfl (Nat.le_of_ble_eq_true rfl) dX6_makes_223 rfl ?_
          refine v_aload_n C dX6_makes_226 rfl 0 rfl ?_
          refine v_get C 0 (kf := 2) rfl rfl (by decide) inX6_makes_6 lkX6_makes_13 rfl rfl dX6_makes_227 ?_
          refine v_iconst C (z := 1) dX6_makes_230 ?_
          refine v_isub C dX6_makes_231 ?_
          exact (v_iret C hr hl () (by decide) (by decide) rfl (congrArg iI (by omega)) dX6_makes_232)
        ·
          refine v_aload_n C dX6_makes_164 rfl 0 rfl ?_
          refine v_get C 0 (kf := 5) rfl rfl (by decide) inX6_makes_6 lkX6_makes_24 rfl rfl dX6_makes_165 ?_
          refine v_aload_n C dX6_makes_168 rfl 0 rfl ?_
          refine v_get C 0 (kf := 2) rfl rfl (by decide) inX6_makes_6 lkX6_makes_13 rfl rfl dX6_makes_169 ?_
          refine v_dup2 C dX6_makes_172 rfl rfl ?_
          refine v_lald C 4 (cm) rfl rfl (by omega) (by decide) dX6_makes_173 ?_
          refine v_lconst C (v := lN 1) dX6_makes_174 rfl ?_
          refine v_aload_n C dX6_makes_175 rfl 0 rfl ?_
          refine v_get C 0 (kf := 2) rfl rfl (by decide) inX6_makes_6 lkX6_makes_13 rfl rfl dX6_makes_176 ?_
          refine v_lshl C dX6_makes_179 (loM_bit (by omega)) ?_
          refine v_lor_ml C dX6_makes_180 ?_
          refine v_last C 4 (cm) (xml (updN (updN An (cm) ((An (hds (b0))) ||| (An (k0)))) (cm) (((updN An (cm) ((An (hds (b0))) ||| (An (k0)))) (cm)) ||| (2 ^ cm)))) (wMM g mm b1 b2 b3 b4 b5 b6 b7 b8 b9 b10 b11 b12 b13 b14 b15 b16 b17 kinds ni cm (updZ first (cm) (((hds (b0) : Nat) : Int))) (updZ second (cm) (((k0 : Nat) : Int))) (updN (updN An (cm) ((An (hds (b0))) ||| (An (k0)))) (cm) (((updN An (cm) ((An (hds (b0))) ||| (An (k0)))) (cm)) ||| (2 ^ cm))) (updN An (cm) ((An (hds (b0))) ||| (An (k0)))) (rowP Tm cm ni (fun i => Tm (12 * hds (b0) + i))) (rowP Tm cm ni (fun i => Tm (12 * hds (b0) + i))) bc hds tgs qc qi qo qs cn vals Nw Nw Kw Kw cd ++ ([])) rfl rfl (by omega) (by decide) dX6_makes_181 (xml_upd _ _ _) rfl ?_
          refine v_goto C 206 dX6_makes_182 (by decide) ?_
          have han := anc_lo (a := (An (hds (b0)) ||| An (k0))) (show cm < 50 by omega) (An := An)
          refine v_ws (ws' := wMM g mm b1 b2 b3 b4 b5 b6 b7 b8 b9 b10 b11 b12 b13 b14 b15 b16 b17 kinds ni cm (updZ first (cm) (((hds (b0) : Nat) : Int))) (updZ second (cm) (((k0 : Nat) : Int))) (updN An (cm) ((An (hds (b0)) ||| An (k0)) ||| 2 ^ cm)) (updN An (cm) ((An (hds (b0)) ||| An (k0)) ||| 2 ^ cm)) (rowP Tm cm ni (fun i => Tm (12 * hds (b0) + i))) (rowP Tm cm ni (fun i => Tm (12 * hds (b0) + i))) bc hds tgs qc qi qo qs cn vals Nw Nw Kw Kw cd ++ ([])) (congrArg (· ++ []) (wMM_h g han.1 han.2 rfl rfl)) ?_
          refine v_aload_n C dX6_makes_206 rfl 0 rfl ?_
          refine v_get C 0 (kf := 10) rfl rfl (by decide) inX6_makes_6 lkX6_makes_40 rfl rfl dX6_makes_207 ?_
          refine v_iload_n C dX6_makes_210 rfl 1 rfl ?_
          refine v_aload_n C dX6_makes_211 rfl 0 rfl ?_
          refine v_get C 0 (kf := 2) rfl rfl (by decide) inX6_makes_6 lkX6_makes_13 rfl rfl dX6_makes_212 ?_
          refine v_iastn C 8 (b0) (wMM g mm b1 b2 b3 b4 b5 b6 b7 b8 b9 b10 b11 b12 b13 b14 b15 b16 b17 kinds ni cm (updZ first (cm) (((hds (b0) : Nat) : Int))) (updZ second (cm) (((k0 : Nat) : Int))) (updN An (cm) ((An (hds (b0)) ||| An (k0)) ||| 2 ^ cm)) (updN An (cm) ((An (hds (b0)) ||| An (k0)) ||| 2 ^ cm)) (rowP Tm cm ni (fun i => Tm (12 * hds (b0) + i))) (rowP Tm cm ni (fun i => Tm (12 * hds (b0) + i))) bc (updN hds (b0) (cm)) tgs qc qi qo qs cn vals Nw Nw Kw Kw cd ++ ([])) rfl rfl (by omega) (by decide) dX6_makes_215 rfl ?_
          refine v_aload_n C dX6_makes_216 rfl 0 rfl ?_
          refine v_dup C dX6_makes_217 rfl ?_
          refine v_get C 0 (kf := 2) rfl rfl (by decide) inX6_makes_6 lkX6_makes_13 rfl rfl dX6_makes_218 ?_
          refine v_iconst C (z := 1) dX6_makes_221 ?_
          refine v_iadd C dX6_makes_222 ?_
          rw [show (((cm : Nat) : Int)) + 1 = ((cm + 1 : Nat) : Int) from rfl]
          refine v_put C 0 (kf := 2) (wMM g mm b1 b2 b3 b4 b5 b6 b7 b8 b9 b10 b11 b12 b13 b14 b15 b16 b17 kinds ni (cm + 1) (updZ first (cm) (((hds (b0) : Nat) : Int))) (updZ second (cm) (((k0 : Nat) : Int))) (updN An (cm) ((An (hds (b0)) ||| An (k0)) ||| 2 ^ cm)) (updN An (cm) ((An (hds (b0)) ||| An (k0)) ||| 2 ^ cm)) (rowP Tm cm ni (fun i => Tm (12 * hds (b0) + i))) (rowP Tm cm ni (fun i => Tm (12 * hds (b0) + i))) bc (updN hds (b0) (cm)) tgs qc qi qo qs cn vals Nw Nw Kw Kw cd ++ ([])) rfl rfl (by decide) inX6_makes_6 lkX6_makes_13 rfl tyX6_ok nmX6 rfl rfl rfl (Nat.le_of_ble_eq_true rfl) dX6_makes_223 rfl ?_
          refine v_aload_n C dX6_makes_226 rfl 0 rfl ?_
          refine v_get C 0 (kf := 2) rfl rfl (by decide) inX6_makes_6 lkX6_makes_13 rfl rfl dX6_makes_227 ?_
          refine v_iconst C (z := 1) dX6_makes_230 ?_
          refine v_isub C dX6_makes_231 ?_
          exact (v_iret C hr hl () (by decide) (by decide) rfl (congrArg iI (by omega)) dX6_makes_232)
      ·
        exfalso; omega
    ·
      exfalso; omega
  ·
    refine v_aload_n C dX6_makes_19 rfl 0 rfl ?_
    refine v_get C 0 (kf := 7) rfl rfl (by decide) inX6_makes_6 lkX6_makes_31 rfl rfl dX6_makes_20 ?_
    refine v_aload_n C dX6_makes_23 rfl 0 rfl ?_
    refine v_get C 0 (kf := 2) rfl rfl (by decide) inX6_makes_6 lkX6_makes_13 rfl rfl dX6_makes_24 ?_
    refine v_iload C dX6_makes_27 4 rfl ?_
    refine v_invSI C (As := [.int (iI ((cm : Nat) : Int)), .int (iI ((q : Nat) : Int))]) (kX6_at l g  (r0 := cm) (i0 := q) ) (cwS 2 C.2.2.2.2.1 gX6_makes_X6_at rfl rfl rfl (by decide +kernel) ⟨Nat.le_of_ble_eq_true rfl, Nat.le_of_ble_eq_true rfl⟩) [wMM g mm b1 b2 b3 b4 b5 b6 b7 b8 b9 b10 b11 b12 b13 b14 b15 b16 b17 kinds ni cm first second An An (rowP Tm cm q (fun i => Tm (12 * hds (b0) + i))) (rowP Tm cm q (fun i => Tm (12 * hds (b0) + i))) bc hds tgs qc qi qo qs cn vals Nw Nw Kw Kw cd] [] [0] [.ref (b6)] (fun _ => [wMM g mm b1 b2 b3 b4 b5 b6 b7 b8 b9 b10 b11 b12 b13 b14 b15 b16 b17 kinds ni cm first second An An (rowP Tm cm q (fun i => Tm (12 * hds (b0) + i))) (rowP Tm cm q (fun i => Tm (12 * hds (b0) + i))) bc hds tgs qc qi qo qs cn vals Nw Nw Kw Kw cd]) (fun _ => wMM g mm b1 b2 b3 b4 b5 b6 b7 b8 b9 b10 b11 b12 b13 b14 b15 b16 b17 kinds ni cm first second An An (rowP Tm cm q (fun i => Tm (12 * hds (b0) + i))) (rowP Tm cm q (fun i => Tm (12 * hds (b0) + i))) bc hds tgs qc qi qo qs cn vals Nw Nw Kw Kw cd ++ ([])) rfl rfl rfl (fun _ => rfl) (fun _ => rfl) (fun _ => rfl) (fun _ => rfl) rfl rfl (Nat.le_of_ble_eq_true rfl) dX6_makes_29 ⟨by decide, by decide⟩ (fun r_6 _ h_5 => ?_)
    subst h_5
    refine v_aload_n C dX6_makes_32 rfl 0 rfl ?_
    refine v_get C 0 (kf := 7) rfl rfl (by decide) inX6_makes_6 lkX6_makes_31 rfl rfl dX6_makes_33 ?_
    refine v_iload_n C dX6_makes_36 rfl 3 rfl ?_
    refine v_iload C dX6_makes_37 4 rfl ?_
    refine v_invSI C (As := [.int (iI ((hds (b0) : Nat) : Int)), .int (iI ((q : Nat) : Int))]) (kX6_at l g  (r0 := hds (b0)) (i0 := q) ) (cwS 2 C.2.2.2.2.1 gX6_makes_X6_at rfl rfl rfl (by decide +kernel) ⟨Nat.le_of_ble_eq_true rfl, Nat.le_of_ble_eq_true rfl⟩) [wMM g mm b1 b2 b3 b4 b5 b6 b7 b8 b9 b10 b11 b12 b13 b14 b15 b16 b17 kinds ni cm first second An An (rowP Tm cm q (fun i => Tm (12 * hds (b0) + i))) (rowP Tm cm q (fun i => Tm (12 * hds (b0) + i))) bc hds tgs qc qi qo qs cn vals Nw Nw Kw Kw cd] [] [0] [.ref (b6), .int (iI ((12 * cm + q : Nat) : Int)), .ref (b6)] (fun _ => [wMM g mm b1 b2 b3 b4 b5 b6 b7 b8 b9 b10 b11 b12 b13 b14 b15 b16 b17 kinds ni cm first second An An (rowP Tm cm q (fun i => Tm (12 * hds (b0) + i))) (rowP Tm cm q (fun i => Tm (12 * hds (b0) + i))) bc hds tgs qc qi qo qs cn vals Nw Nw Kw Kw cd]) (fun _ => wMM g mm b1 b2 b3 b4 b5 b6 b7 b8 b9 b10 b11 b12 b13 b14 b15 b16 b17 kinds ni cm first second An An (rowP Tm cm q (fun i => Tm (12 * hds (b0) + i))) (rowP Tm cm q (fun i => Tm (12 * hds (b0) + i))) bc hds tgs qc qi qo qs cn vals Nw Nw Kw Kw cd ++ ([])) rfl rfl rfl (fun _ => rfl) (fun _ => rfl) (fun _ => rfl) (fun _ => rfl) rfl rfl (Nat.le_of_ble_eq_true rfl) dX6_makes_39 ⟨by decide, by decide⟩ (fun r_8 _ h_7 => ?_)
    subst h_7
    refine v_lald C 6 (12 * (hds (b0)) + q) rfl rfl (by omega) (by decide) dX6_makes_42 ?_
    refine v_last C 6 (12 * cm + q) (xml (updN (rowP Tm cm q (fun i => Tm (12 * hds (b0) + i))) (12 * cm + q) ((rowP Tm cm q (fun i => Tm (12 * hds (b0) + i))) (12 * (hds (b0)) + q)))) (wMM g mm b1 b2 b3 b4 b5 b6 b7 b8 b9 b10 b11 b12 b13 b14 b15 b16 b17 kinds ni cm first second An An (updN (rowP Tm cm q (fun i => Tm (12 * hds (b0) + i))) (12 * cm + q) ((rowP Tm cm q (fun i => Tm (12 * hds (b0) + i))) (12 * (hds (b0)) + q))) (rowP Tm cm q (fun i => Tm (12 * hds (b0) + i))) bc hds tgs qc qi qo qs cn vals Nw Nw Kw Kw cd ++ ([])) rfl rfl (by omega) (by decide) dX6_makes_43 (xml_upd _ _ _) rfl ?_
    refine v_aload_n C dX6_makes_44 rfl 0 rfl ?_
    refine v_get C 0 (kf := 8) rfl rfl (by decide) inX6_makes_6 lkX6_makes_34 rfl rfl dX6_makes_45 ?_
    refine v_aload_n C dX6_makes_48 rfl 0 rfl ?_
    refine v_get C 0 (kf := 2) rfl rfl (by decide) inX6_makes_6 lkX6_makes_13 rfl rfl dX6_makes_49 ?_
    refine v_iload C dX6_makes_52 4 rfl ?_
    refine v_invSI C (As := [.int (iI ((cm : Nat) : Int)), .int (iI ((q : Nat) : Int))]) (kX6_at l g  (r0 := cm) (i0 := q) ) (cwS 2 C.2.2.2.2.1 gX6_makes_X6_at rfl rfl rfl (by decide +kernel) ⟨Nat.le_of_ble_eq_true rfl, Nat.le_of_ble_eq_true rfl⟩) [wMM g mm b1 b2 b3 b4 b5 b6 b7 b8 b9 b10 b11 b12 b13 b14 b15 b16 b17 kinds ni cm first second An An (updN (rowP Tm cm q (fun i => Tm (12 * hds (b0) + i))) (12 * cm + q) ((rowP Tm cm q (fun i => Tm (12 * hds (b0) + i))) (12 * (hds (b0)) + q))) (rowP Tm cm q (fun i => Tm (12 * hds (b0) + i))) bc hds tgs qc qi qo qs cn vals Nw Nw Kw Kw cd] [] [0] [.ref (b7)] (fun _ => [wMM g mm b1 b2 b3 b4 b5 b6 b7 b8 b9 b10 b11 b12 b13 b14 b15 b16 b17 kinds ni cm first second An An (updN (rowP Tm cm q (fun i => Tm (12 * hds (b0) + i))) (12 * cm + q) ((rowP Tm cm q (fun i => Tm (12 * hds (b0) + i))) (12 * (hds (b0)) + q))) (rowP Tm cm q (fun i => Tm (12 * hds (b0) + i))) bc hds tgs qc qi qo qs cn vals Nw Nw Kw Kw cd]) (fun _ => wMM g mm b1 b2 b3 b4 b5 b6 b7 b8 b9 b10 b11 b12 b13 b14 b15 b16 b17 kinds ni cm first second An An (updN (rowP Tm cm q (fun i => Tm (12 * hds (b0) + i))) (12 * cm + q) ((rowP Tm cm q (fun i => Tm (12 * hds (b0) + i))) (12 * (hds (b0)) + q))) (rowP Tm cm q (fun i => Tm (12 * hds (b0) + i))) bc hds tgs qc qi qo qs cn vals Nw Nw Kw Kw cd ++ ([])) rfl rfl rfl (fun _ => rfl) (fun _ => rfl) (fun _ => rfl) (fun _ => rfl) rfl rfl (Nat.le_of_ble_eq_true rfl) dX6_makes_54 ⟨by decide, by decide⟩ (fun r_10 _ h_9 => ?_)
    subst h_9
    refine v_aload_n C dX6_makes_57 rfl 0 rfl ?_
    refine v_get C 0 (kf := 8) rfl rfl (by decide) inX6_makes_6 lkX6_makes_34 rfl rfl dX6_makes_58 ?_
    refine v_iload_n C dX6_makes_61 rfl 3 rfl ?_
    refine v_iload C dX6_makes_62 4 rfl ?_
    refine v_invSI C (As := [.int (iI ((hds (b0) : Nat) : Int)), .int (iI ((q : Nat) : Int))]) (kX6_at l g  (r0 := hds (b0)) (i0 := q) ) (cwS 2 C.2.2.2.2.1 gX6_makes_X6_at rfl rfl rfl (by decide +kernel) ⟨Nat.le_of_ble_eq_true rfl, Nat.le_of_ble_eq_true rfl⟩) [wMM g mm b1 b2 b3 b4 b5 b6 b7 b8 b9 b10 b11 b12 b13 b14 b15 b16 b17 kinds ni cm first second An An (updN (rowP Tm cm q (fun i => Tm (12 * hds (b0) + i))) (12 * cm + q) ((rowP Tm cm q (fun i => Tm (12 * hds (b0) + i))) (12 * (hds (b0)) + q))) (rowP Tm cm q (fun i => Tm (12 * hds (b0) + i))) bc hds tgs qc qi qo qs cn vals Nw Nw Kw Kw cd] [] [0] [.ref (b7), .int (iI ((12 * cm + q : Nat) : Int)), .ref (b7)] (fun _ => [wMM g mm b1 b2 b3 b4 b5 b6 b7 b8 b9 b10 b11 b12 b13 b14 b15 b16 b17 kinds ni cm first second An An (updN (rowP Tm cm q (fun i => Tm (12 * hds (b0) + i))) (12 * cm + q) ((rowP Tm cm q (fun i => Tm (12 * hds (b0) + i))) (12 * (hds (b0)) + q))) (rowP Tm cm q (fun i => Tm (12 * hds (b0) + i))) bc hds tgs qc qi qo qs cn vals Nw Nw Kw Kw cd]) (fun _ => wMM g mm b1 b2 b3 b4 b5 b6 b7 b8 b9 b10 b11 b12 b13 b14 b15 b16 b17 kinds ni cm first second An An (updN (rowP Tm cm q (fun i => Tm (12 * hds (b0) + i))) (12 * cm + q) ((rowP Tm cm q (fun i => Tm (12 * hds (b0) + i))) (12 * (hds (b0)) + q))) (rowP Tm cm q (fun i => Tm (12 * hds (b0) + i))) bc hds tgs qc qi qo qs cn vals Nw Nw Kw Kw cd ++ ([])) rfl rfl rfl (fun _ => rfl) (fun _ => rfl) (fun _ => rfl) (fun _ => rfl) rfl rfl (Nat.le_of_ble_eq_true rfl) dX6_makes_64 ⟨by decide, by decide⟩ (fun r_12 _ h_11 => ?_)
    subst h_11
    refine v_lald C 7 (12 * (hds (b0)) + q) rfl rfl (by omega) (by decide) dX6_makes_67 ?_
    refine v_last C 7 (12 * cm + q) (xmh (updN (rowP Tm cm q (fun i => Tm (12 * hds (b0) + i))) (12 * cm + q) ((rowP Tm cm q (fun i => Tm (12 * hds (b0) + i))) (12 * (hds (b0)) + q)))) (wMM g mm b1 b2 b3 b4 b5 b6 b7 b8 b9 b10 b11 b12 b13 b14 b15 b16 b17 kinds ni cm first second An An (updN (rowP Tm cm q (fun i => Tm (12 * hds (b0) + i))) (12 * cm + q) ((rowP Tm cm q (fun i => Tm (12 * hds (b0) + i))) (12 * (hds (b0)) + q))) (updN (rowP Tm cm q (fun i => Tm (12 * hds (b0) + i))) (12 * cm + q) ((rowP Tm cm q (fun i => Tm (12 * hds (b0) + i))) (12 * (hds (b0)) + q))) bc hds tgs qc qi qo qs cn vals Nw Nw Kw Kw cd ++ ([])) rfl rfl (by omega) (by decide) dX6_makes_68 (xmh_upd _ _ _) rfl ?_
    refine v_iinc C [(4, .int (iI (((q : Nat) : Int) + 1))), (0, .ref (mm)), (1, .int (iI ((b0 : Nat) : Int))), (2, .int (iI ((k0 : Nat) : Int))), (3, .int (iI ((hds (b0) : Nat) : Int)))] dX6_makes_69 4 rfl (by decide) rfl ?_
    rw [show ((q : Nat) : Int) + 1 = ((q + 1 : Nat) : Int) from rfl]
    refine v_goto C 10 dX6_makes_72 (by decide) ?_
    refine v_lv (lv' := [(0, .ref (mm)), (1, .int (iI ((b0 : Nat) : Int))), (2, .int (iI ((k0 : Nat) : Int))), (3, .int (iI ((hds (b0) : Nat) : Int))), (4, .int (iI ((q + 1 : Nat) : Int)))]) [1, 2, 3, 4, 0] rfl ?_
    refine v_ws (ws' := wMM g mm b1 b2 b3 b4 b5 b6 b7 b8 b9 b10 b11 b12 b13 b14 b15 b16 b17 kinds ni cm first second An An (rowP Tm cm (q + 1) (fun i => Tm (12 * hds (b0) + i))) (rowP Tm cm (q + 1) (fun i => Tm (12 * hds (b0) + i))) bc hds tgs qc qi qo qs cn vals Nw Nw Kw Kw cd ++ ([])) (by rw [cp_step (by omega) (by omega)]) ?_
    exact ih10 (q + 1) (by omega) (by omega)
theorem inX6_changes_6 : ∀ w ∈ u_ws RX6 TX6 23, w ∈ wsX6_changes := by decide +kernel
theorem lkX6_changes_31 : Cond.fieldLink RX6 31 "MergeAtelierModel" "low" "[J" ∈ wsX6_changes := by decide +kernel
theorem lkX6_changes_34 : Cond.fieldLink RX6 34 "MergeAtelierModel" "high" "[J" ∈ wsX6_changes := by decide +kernel
set_option maxHeartbeats 4000000 in
set_option maxRecDepth 100000 in
theorem kX6_changes (l : Launch) (g : vG) {mm b1 b2 b3 b4 b5 b6 b7 b8 b9 b10 b11 b12 b13 b14 b15 b16 b17 : Nat} {kinds tgs first second vals qs : Nat → Int} {hds An qi qo Tm Nw Kw ris : Nat → Nat} {ni bc cm cn qc cd : Nat} {b0 i0 sd : Nat} (hb0 : b0 < 5) (hni : ni ≤ 12) (hh : hds (b0) < cm) (hcm : cm < 100) (hi0 : i0 < 12) (hsd : sd < 101) : mI l g yX6_changes wsX6_changes ({ frames := 2, cells := 0, slots := 0, locals := 45 }) [.ref (mm), .int (iI ((b0 : Nat) : Int)), .int (iI ((i0 : Nat) : Int)), .int (iI ((sd : Nat) : Int))] (wMM g mm b1 b2 b3 b4 b5 b6 b7 b8 b9 b10 b11 b12 b13 b14 b15 b16 b17 kinds ni cm first second An An Tm Tm bc hds tgs qc qi qo qs cn vals Nw Nw Kw Kw cd ++ ([])) (fun _ : Unit => wMM g mm b1 b2 b3 b4 b5 b6 b7 b8 b9 b10 b11 b12 b13 b14 b15 b16 b17 kinds ni (cm + 1) (updZ first (cm) (((hds (b0) : Nat) : Int))) (updZ second (cm) (-1)) (updN An (cm) (An (hds (b0)) ||| 2 ^ cm)) (updN An (cm) (An (hds (b0)) ||| 2 ^ cm)) (updN (rowP Tm cm ni (fun i => Tm (12 * hds (b0) + i))) (12 * cm + i0) (2 ^ sd)) (updN (rowP Tm cm ni (fun i => Tm (12 * hds (b0) + i))) (12 * cm + i0) (2 ^ sd)) bc (updN hds (b0) (cm)) tgs qc qi qo qs cn vals Nw Nw Kw Kw cd ++ ([])) (fun v _ => v = iI ((cm : Nat) : Int)) 0 0 := by
  refine mI_of (cc := cX6_changes) (maxL := 5) (ret := (some .int)) (own := RX6) (by decide) rfl rfl (Nat.le_of_ble_eq_true rfl) ?_
  intro p e s m args below meth c A C hr hl hin
  refine v_aload_n C dX6_changes_0 rfl 0 rfl ?_
  refine v_iload_n C dX6_changes_1 rfl 1 rfl ?_
  refine v_iconst C (z := -1) dX6_changes_2 ?_
  refine v_invVI C (As := [.int (iI ((b0 : Nat) : Int)), .int (iI (-1))]) (q0 := 0) (ci := 6) (kX6_makes_n l g (mm := mm) (b1 := b1) (b2 := b2) (b3 := b3) (b4 := b4) (b5 := b5) (b6 := b6) (b7 := b7) (b8 := b8) (b9 := b9) (b10 := b10) (b11 := b11) (b12 := b12) (b13 := b13) (b14 := b14) (b15 := b15) (b16 := b16) (b17 := b17) (kinds := kinds) (tgs := tgs) (first := first) (second := second) (vals := vals) (qs := qs) (hds := hds) (An := An) (qi := qi) (qo := qo) (Tm := Tm) (Nw := Nw) (Kw := Kw) (ni := ni) (bc := bc) (cm := cm) (cn := cn) (qc := qc) (cd := cd) (ris := ris) (b0 := b0) (by omega) (by omega) (by omega) (by omega)) (cwV 2 C.2.2.2.2.1 gX6_changes_X6_makes rfl rfl rfl (by decide +kernel) ⟨Nat.le_of_ble_eq_true rfl, Nat.le_of_ble_eq_true rfl⟩) [wMM g mm b1 b2 b3 b4 b5 b6 b7 b8 b9 b10 b11 b12 b13 b14 b15 b16 b17 kinds ni cm first second An An Tm Tm bc hds tgs qc qi qo qs cn vals Nw Nw Kw Kw cd] [0] [] [] (fun _ => [wMM g mm b1 b2 b3 b4 b5 b6 b7 b8 b9 b10 b11 b12 b13 b14 b15 b16 b17 kinds ni (cm + 1) (updZ first (cm) (((hds (b0) : Nat) : Int))) (updZ second (cm) (-1)) (updN An (cm) (An (hds (b0)) ||| 2 ^ cm)) (updN An (cm) (An (hds (b0)) ||| 2 ^ cm)) (rowP Tm cm ni (fun i => Tm (12 * hds (b0) + i))) (rowP Tm cm ni (fun i => Tm (12 * hds (b0) + i))) bc (updN hds (b0) (cm)) tgs qc qi qo qs cn vals Nw Nw Kw Kw cd]) (fun _ => wMM g mm b1 b2 b3 b4 b5 b6 b7 b8 b9 b10 b11 b12 b13 b14 b15 b16 b17 kinds ni (cm + 1) (updZ first (cm) (((hds (b0) : Nat) : Int))) (updZ second (cm) (-1)) (updN An (cm) (An (hds (b0)) ||| 2 ^ cm)) (updN An (cm) (An (hds (b0)) ||| 2 ^ cm)) (rowP Tm cm ni (fun i => Tm (12 * hds (b0) + i))) (rowP Tm cm ni (fun i => Tm (12 * hds (b0) + i))) bc (updN hds (b0) (cm)) tgs qc qi qo qs cn vals Nw Nw Kw Kw cd ++ ([])) rfl rfl rfl (fun _ => rfl) (fun _ => rfl) (fun _ => rfl) (fun _ => rfl) rfl rfl rfl rfl rfl (Nat.le_of_ble_eq_true rfl) dX6_changes_3 ⟨by decide, by decide⟩ (fun r_2 _ h_1 => ?_)
  subst h_1
  refine v_istore C [(4, .int (iI ((cm : Nat) : Int))), (0, .ref (mm)), (1, .int (iI ((b0 : Nat) : Int))), (2, .int (iI ((i0 : Nat) : Int))), (3, .int (iI ((sd : Nat) : Int)))] dX6_changes_6 (by decide) rfl ?_
  refine v_aload_n C dX6_changes_8 rfl 1 rfl ?_
  refine v_get C 0 (kf := 7) rfl rfl (by decide) inX6_changes_6 lkX6_changes_31 rfl rfl dX6_changes_9 ?_
  refine v_iload C dX6_changes_12 0 rfl ?_
  refine v_iload_n C dX6_changes_14 rfl 3 rfl ?_
  refine v_invSI C (As := [.int (iI ((cm : Nat) : Int)), .int (iI ((i0 : Nat) : Int))]) (kX6_at l g  (r0 := cm) (i0 := i0) ) (cwS 2 C.2.2.2.2.1 gX6_changes_X6_at rfl rfl rfl (by decide +kernel) ⟨Nat.le_of_ble_eq_true rfl, Nat.le_of_ble_eq_true rfl⟩) [wMM g mm b1 b2 b3 b4 b5 b6 b7 b8 b9 b10 b11 b12 b13 b14 b15 b16 b17 kinds ni (cm + 1) (updZ first (cm) (((hds (b0) : Nat) : Int))) (updZ second (cm) (-1)) (updN An (cm) (An (hds (b0)) ||| 2 ^ cm)) (updN An (cm) (An (hds (b0)) ||| 2 ^ cm)) (rowP Tm cm ni (fun i => Tm (12 * hds (b0) + i))) (rowP Tm cm ni (fun i => Tm (12 * hds (b0) + i))) bc (updN hds (b0) (cm)) tgs qc qi qo qs cn vals Nw Nw Kw Kw cd] [] [0] [.ref (b6)] (fun _ => [wMM g mm b1 b2 b3 b4 b5 b6 b7 b8 b9 b10 b11 b12 b13 b14 b15 b16 b17 kinds ni (cm + 1) (updZ first (cm) (((hds (b0) : Nat) : Int))) (updZ second (cm) (-1)) (updN An (cm) (An (hds (b0)) ||| 2 ^ cm)) (updN An (cm) (An (hds (b0)) ||| 2 ^ cm)) (rowP Tm cm ni (fun i => Tm (12 * hds (b0) + i))) (rowP Tm cm ni (fun i => Tm (12 * hds (b0) + i))) bc (updN hds (b0) (cm)) tgs qc qi qo qs cn vals Nw Nw Kw Kw cd]) (fun _ => wMM g mm b1 b2 b3 b4 b5 b6 b7 b8 b9 b10 b11 b12 b13 b14 b15 b16 b17 kinds ni (cm + 1) (updZ first (cm) (((hds (b0) : Nat) : Int))) (updZ second (cm) (-1)) (updN An (cm) (An (hds (b0)) ||| 2 ^ cm)) (updN An (cm) (An (hds (b0)) ||| 2 ^ cm)) (rowP Tm cm ni (fun i => Tm (12 * hds (b0) + i))) (rowP Tm cm ni (fun i => Tm (12 * hds (b0) + i))) bc (updN hds (b0) (cm)) tgs qc qi qo qs cn vals Nw Nw Kw Kw cd ++ ([])) rfl rfl rfl (fun _ => rfl) (fun _ => rfl) (fun _ => rfl) (fun _ => rfl) rfl rfl (Nat.le_of_ble_eq_true rfl) dX6_changes_15 ⟨by decide, by decide⟩ (fun r_4 _ h_3 => ?_)
  subst h_3
  refine v_iload_n C dX6_changes_18 rfl 4 rfl ?_
  refine v_bipush C (z := 50) dX6_changes_19 rfl ?_
  refine v_icmp_ge C 30 dX6_changes_21 (by decide) ⟨by omega, by omega⟩ (b31_lit _ rfl) (fun c_5 => ?_) (fun c_5 => ?_)
  ·
    refine v_lconst C (v := lN 0) dX6_changes_30 rfl ?_
    refine v_st (st' := [.long (loM (2 ^ sd)), .int (iI ((12 * cm + i0 : Nat) : Int)), .ref (b6)]) (by rw [mpow_Lo sd (by omega) (by omega)]) ?_
    refine v_last C 6 (12 * cm + i0) (xml (updN (rowP Tm cm ni (fun i => Tm (12 * hds (b0) + i))) (12 * cm + i0) (2 ^ sd))) (wMM g mm b1 b2 b3 b4 b5 b6 b7 b8 b9 b10 b11 b12 b13 b14 b15 b16 b17 kinds ni (cm + 1) (updZ first (cm) (((hds (b0) : Nat) : Int))) (updZ second (cm) (-1)) (updN An (cm) (An (hds (b0)) ||| 2 ^ cm)) (updN An (cm) (An (hds (b0)) ||| 2 ^ cm)) (updN (rowP Tm cm ni (fun i => Tm (12 * hds (b0) + i))) (12 * cm + i0) (2 ^ sd)) (rowP Tm cm ni (fun i => Tm (12 * hds (b0) + i))) bc (updN hds (b0) (cm)) tgs qc qi qo qs cn vals Nw Nw Kw Kw cd ++ ([])) rfl rfl (by omega) (by decide) dX6_changes_31 (xml_upd _ _ _) rfl ?_
    refine v_aload_n C dX6_changes_32 rfl 1 rfl ?_
    refine v_get C 0 (kf := 8) rfl rfl (by decide) inX6_changes_6 lkX6_changes_34 rfl rfl dX6_changes_33 ?_
    refine v_iload C dX6_changes_36 0 rfl ?_
    refine v_iload_n C dX6_changes_38 rfl 3 rfl ?_
    refine v_invSI C (As := [.int (iI ((cm : Nat) : Int)), .int (iI ((i0 : Nat) : Int))]) (kX6_at l g  (r0 := cm) (i0 := i0) ) (cwS 2 C.2.2.2.2.1 gX6_changes_X6_at rfl rfl rfl (by decide +kernel) ⟨Nat.le_of_ble_eq_true rfl, Nat.le_of_ble_eq_true rfl⟩) [wMM g mm b1 b2 b3 b4 b5 b6 b7 b8 b9 b10 b11 b12 b13 b14 b15 b16 b17 kinds ni (cm + 1) (updZ first (cm) (((hds (b0) : Nat) : Int))) (updZ second (cm) (-1)) (updN An (cm) (An (hds (b0)) ||| 2 ^ cm)) (updN An (cm) (An (hds (b0)) ||| 2 ^ cm)) (updN (rowP Tm cm ni (fun i => Tm (12 * hds (b0) + i))) (12 * cm + i0) (2 ^ sd)) (rowP Tm cm ni (fun i => Tm (12 * hds (b0) + i))) bc (updN hds (b0) (cm)) tgs qc qi qo qs cn vals Nw Nw Kw Kw cd] [] [0] [.ref (b7)] (fun _ => [wMM g mm b1 b2 b3 b4 b5 b6 b7 b8 b9 b10 b11 b12 b13 b14 b15 b16 b17 kinds ni (cm + 1) (updZ first (cm) (((hds (b0) : Nat) : Int))) (updZ second (cm) (-1)) (updN An (cm) (An (hds (b0)) ||| 2 ^ cm)) (updN An (cm) (An (hds (b0)) ||| 2 ^ cm)) (updN (rowP Tm cm ni (fun i => Tm (12 * hds (b0) + i))) (12 * cm + i0) (2 ^ sd)) (rowP Tm cm ni (fun i => Tm (12 * hds (b0) + i))) bc (updN hds (b0) (cm)) tgs qc qi qo qs cn vals Nw Nw Kw Kw cd]) (fun _ => wMM g mm b1 b2 b3 b4 b5 b6 b7 b8 b9 b10 b11 b12 b13 b14 b15 b16 b17 kinds ni (cm + 1) (updZ first (cm) (((hds (b0) : Nat) : Int))) (updZ second (cm) (-1)) (updN An (cm) (An (hds (b0)) ||| 2 ^ cm)) (updN An (cm) (An (hds (b0)) ||| 2 ^ cm)) (updN (rowP Tm cm ni (fun i => Tm (12 * hds (b0) + i))) (12 * cm + i0) (2 ^ sd)) (rowP Tm cm ni (fun i => Tm (12 * hds (b0) + i))) bc (updN hds (b0) (cm)) tgs qc qi qo qs cn vals Nw Nw Kw Kw cd ++ ([])) rfl rfl rfl (fun _ => rfl) (fun _ => rfl) (fun _ => rfl) (fun _ => rfl) rfl rfl (Nat.le_of_ble_eq_true rfl) dX6_changes_39 ⟨by decide, by decide⟩ (fun r_7 _ h_6 => ?_)
    subst h_6
    refine v_iload_n C dX6_changes_42 rfl 4 rfl ?_
    refine v_bipush C (z := 50) dX6_changes_43 rfl ?_
    refine v_icmp_ge C 52 dX6_changes_45 (by decide) ⟨by omega, by omega⟩ (b31_lit _ rfl) (fun c_8 => ?_) (fun c_8 => ?_)
    ·
      refine v_lconst C (v := lN 1) dX6_changes_52 rfl ?_
      refine v_iload_n C dX6_changes_53 rfl 4 rfl ?_
      refine v_bipush C (z := 50) dX6_changes_54 rfl ?_
      refine v_isub C dX6_changes_56 ?_
      rw [show (((sd : Nat) : Int)) - 50 = ((sd - 50 : Nat) : Int) by omega]
      refine v_lshl C dX6_changes_57 (hiM_bit (by omega) (by omega)) ?_
      refine v_last C 7 (12 * cm + i0) (xmh (updN (rowP Tm cm ni (fun i => Tm (12 * hds (b0) + i))) (12 * cm + i0) (2 ^ sd))) (wMM g mm b1 b2 b3 b4 b5 b6 b7 b8 b9 b10 b11 b12 b13 b14 b15 b16 b17 kinds ni (cm + 1) (updZ first (cm) (((hds (b0) : Nat) : Int))) (updZ second (cm) (-1)) (updN An (cm) (An (hds (b0)) ||| 2 ^ cm)) (updN An (cm) (An (hds (b0)) ||| 2 ^ cm)) (updN (rowP Tm cm ni (fun i => Tm (12 * hds (b0) + i))) (12 * cm + i0) (2 ^ sd)) (updN (rowP Tm cm ni (fun i => Tm (12 * hds (b0) + i))) (12 * cm + i0) (2 ^ sd)) bc (updN hds (b0) (cm)) tgs qc qi qo qs cn vals Nw Nw Kw Kw cd ++ ([])) rfl rfl (by omega) (by decide) dX6_changes_58 (xmh_upd _ _ _) rfl ?_
      refine v_iload C dX6_changes_59 0 rfl ?_
      exact (v_iret C hr hl () (by decide) (by decide) rfl rfl dX6_changes_61)
    ·
      refine v_lconst C (v := lN 0) dX6_changes_48 rfl ?_
      refine v_goto C 58 dX6_changes_49 (by decide) ?_
      refine v_st (st' := [.long (hiM (2 ^ sd)), .int (iI ((12 * cm + i0 : Nat) : Int)), .ref (b7)]) (by rw [mpow_Ho sd (by omega)]) ?_
      refine v_last C 7 (12 * cm + i0) (xmh (updN (rowP Tm cm ni (fun i => Tm (12 * hds (b0) + i))) (12 * cm + i0) (2 ^ sd))) (wMM g mm b1 b2 b3 b4 b5 b6 b7 b8 b9 b10 b11 b12 b13 b14 b15 b16 b17 kinds ni (cm + 1) (updZ first (cm) (((hds (b0) : Nat) : Int))) (updZ second (cm) (-1)) (updN An (cm) (An (hds (b0)) ||| 2 ^ cm)) (updN An (cm) (An (hds (b0)) ||| 2 ^ cm)) (updN (rowP Tm cm ni (fun i => Tm (12 * hds (b0) + i))) (12 * cm + i0) (2 ^ sd)) (updN (rowP Tm cm ni (fun i => Tm (12 * hds (b0) + i))) (12 * cm + i0) (2 ^ sd)) bc (updN hds (b0) (cm)) tgs qc qi qo qs cn vals Nw Nw Kw Kw cd ++ ([])) rfl rfl (by omega) (by decide) dX6_changes_58 (xmh_upd _ _ _) rfl ?_
      refine v_iload C dX6_changes_59 0 rfl ?_
      exact (v_iret C hr hl () (by decide) (by decide) rfl rfl dX6_changes_61)
  ·
    refine v_lconst C (v := lN 1) dX6_changes_24 rfl ?_
    refine v_iload_n C dX6_changes_25 rfl 4 rfl ?_
    refine v_lshl C dX6_changes_26 (loM_bit (by omega)) ?_
    refine v_goto C 31 dX6_changes_27 (by decide) ?_
    refine v_last C 6 (12 * cm + i0) (xml (updN (rowP Tm cm ni (fun i => Tm (12 * hds (b0) + i))) (12 * cm + i0) (2 ^ sd))) (wMM g mm b1 b2 b3 b4 b5 b6 b7 b8 b9 b10 b11 b12 b13 b14 b15 b16 b17 kinds ni (cm + 1) (updZ first (cm) (((hds (b0) : Nat) : Int))) (updZ second (cm) (-1)) (updN An (cm) (An (hds (b0)) ||| 2 ^ cm)) (updN An (cm) (An (hds (b0)) ||| 2 ^ cm)) (updN (rowP Tm cm ni (fun i => Tm (12 * hds (b0) + i))) (12 * cm + i0) (2 ^ sd)) (rowP Tm cm ni (fun i => Tm (12 * hds (b0) + i))) bc (updN hds (b0) (cm)) tgs qc qi qo qs cn vals Nw Nw Kw Kw cd ++ ([])) rfl rfl (by omega) (by decide) dX6_changes_31 (xml_upd _ _ _) rfl ?_
    refine v_aload_n C dX6_changes_32 rfl 1 rfl ?_
    refine v_get C 0 (kf := 8) rfl rfl (by decide) inX6_changes_6 lkX6_changes_34 rfl rfl dX6_changes_33 ?_
    refine v_iload C dX6_changes_36 0 rfl ?_
    refine v_iload_n C dX6_changes_38 rfl 3 rfl ?_
    refine v_invSI C (As := [.int (iI ((cm : Nat) : Int)), .int (iI ((i0 : Nat) : Int))]) (kX6_at l g  (r0 := cm) (i0 := i0) ) (cwS 2 C.2.2.2.2.1 gX6_changes_X6_at rfl rfl rfl (by decide +kernel) ⟨Nat.le_of_ble_eq_true rfl, Nat.le_of_ble_eq_true rfl⟩) [wMM g mm b1 b2 b3 b4 b5 b6 b7 b8 b9 b10 b11 b12 b13 b14 b15 b16 b17 kinds ni (cm + 1) (updZ first (cm) (((hds (b0) : Nat) : Int))) (updZ second (cm) (-1)) (updN An (cm) (An (hds (b0)) ||| 2 ^ cm)) (updN An (cm) (An (hds (b0)) ||| 2 ^ cm)) (updN (rowP Tm cm ni (fun i => Tm (12 * hds (b0) + i))) (12 * cm + i0) (2 ^ sd)) (rowP Tm cm ni (fun i => Tm (12 * hds (b0) + i))) bc (updN hds (b0) (cm)) tgs qc qi qo qs cn vals Nw Nw Kw Kw cd] [] [0] [.ref (b7)] (fun _ => [wMM g mm b1 b2 b3 b4 b5 b6 b7 b8 b9 b10 b11 b12 b13 b14 b15 b16 b17 kinds ni (cm + 1) (updZ first (cm) (((hds (b0) : Nat) : Int))) (updZ second (cm) (-1)) (updN An (cm) (An (hds (b0)) ||| 2 ^ cm)) (updN An (cm) (An (hds (b0)) ||| 2 ^ cm)) (updN (rowP Tm cm ni (fun i => Tm (12 * hds (b0) + i))) (12 * cm + i0) (2 ^ sd)) (rowP Tm cm ni (fun i => Tm (12 * hds (b0) + i))) bc (updN hds (b0) (cm)) tgs qc qi qo qs cn vals Nw Nw Kw Kw cd]) (fun _ => wMM g mm b1 b2 b3 b4 b5 b6 b7 b8 b9 b10 b11 b12 b13 b14 b15 b16 b17 kinds ni (cm + 1) (updZ first (cm) (((hds (b0) : Nat) : Int))) (updZ second (cm) (-1)) (updN An (cm) (An (hds (b0)) ||| 2 ^ cm)) (updN An (cm) (An (hds (b0)) ||| 2 ^ cm)) (updN (rowP Tm cm ni (fun i => Tm (12 * hds (b0) + i))) (12 * cm + i0) (2 ^ sd)) (rowP Tm cm ni (fun i => Tm (12 * hds (b0) + i))) bc (updN hds (b0) (cm)) tgs qc qi qo qs cn vals Nw Nw Kw Kw cd ++ ([])) rfl rfl rfl (fun _ => rfl) (fun _ => rfl) (fun _ => rfl) (fun _ => rfl) rfl rfl (Nat.le_of_ble_eq_true rfl) dX6_changes_39 ⟨by decide, by decide⟩ (fun r_10 _ h_9 => ?_)
    subst h_9
    refine v_iload_n C dX6_changes_42 rfl 4 rfl ?_
    refine v_bipush C (z := 50) dX6_changes_43 rfl ?_
    refine v_icmp_ge C 52 dX6_changes_45 (by decide) ⟨by omega, by omega⟩ (b31_lit _ rfl) (fun c_11 => ?_) (fun c_11 => ?_)
    ·
      refine v_lconst C (v := lN 1) dX6_changes_52 rfl ?_
      refine v_iload_n C dX6_changes_53 rfl 4 rfl ?_
      refine v_bipush C (z := 50) dX6_changes_54 rfl ?_
      refine v_isub C dX6_changes_56 ?_
      rw [show (((sd : Nat) : Int)) - 50 = ((sd - 50 : Nat) : Int) by omega]
      refine v_lshl C dX6_changes_57 (hiM_bit (by omega) (by omega)) ?_
      refine v_last C 7 (12 * cm + i0) (xmh (updN (rowP Tm cm ni (fun i => Tm (12 * hds (b0) + i))) (12 * cm + i0) (2 ^ sd))) (wMM g mm b1 b2 b3 b4 b5 b6 b7 b8 b9 b10 b11 b12 b13 b14 b15 b16 b17 kinds ni (cm + 1) (updZ first (cm) (((hds (b0) : Nat) : Int))) (updZ second (cm) (-1)) (updN An (cm) (An (hds (b0)) ||| 2 ^ cm)) (updN An (cm) (An (hds (b0)) ||| 2 ^ cm)) (updN (rowP Tm cm ni (fun i => Tm (12 * hds (b0) + i))) (12 * cm + i0) (2 ^ sd)) (updN (rowP Tm cm ni (fun i => Tm (12 * hds (b0) + i))) (12 * cm + i0) (2 ^ sd)) bc (updN hds (b0) (cm)) tgs qc qi qo qs cn vals Nw Nw Kw Kw cd ++ ([])) rfl rfl (by omega) (by decide) dX6_changes_58 (xmh_upd _ _ _) rfl ?_
      refine v_iload C dX6_changes_59 0 rfl ?_
      exact (v_iret C hr hl () (by decide) (by decide) rfl rfl dX6_changes_61)
    ·
      refine v_lconst C (v := lN 0) dX6_changes_48 rfl ?_
      refine v_goto C 58 dX6_changes_49 (by decide) ?_
      refine v_st (st' := [.long (hiM (2 ^ sd)), .int (iI ((12 * cm + i0 : Nat) : Int)), .ref (b7)]) (by rw [mpow_Ho sd (by omega)]) ?_
      refine v_last C 7 (12 * cm + i0) (xmh (updN (rowP Tm cm ni (fun i => Tm (12 * hds (b0) + i))) (12 * cm + i0) (2 ^ sd))) (wMM g mm b1 b2 b3 b4 b5 b6 b7 b8 b9 b10 b11 b12 b13 b14 b15 b16 b17 kinds ni (cm + 1) (updZ first (cm) (((hds (b0) : Nat) : Int))) (updZ second (cm) (-1)) (updN An (cm) (An (hds (b0)) ||| 2 ^ cm)) (updN An (cm) (An (hds (b0)) ||| 2 ^ cm)) (updN (rowP Tm cm ni (fun i => Tm (12 * hds (b0) + i))) (12 * cm + i0) (2 ^ sd)) (updN (rowP Tm cm ni (fun i => Tm (12 * hds (b0) + i))) (12 * cm + i0) (2 ^ sd)) bc (updN hds (b0) (cm)) tgs qc qi qo qs cn vals Nw Nw Kw Kw cd ++ ([])) rfl rfl (by omega) (by decide) dX6_changes_58 (xmh_upd _ _ _) rfl ?_
      refine v_iload C dX6_changes_59 0 rfl ?_
      exact (v_iret C hr hl () (by decide) (by decide) rfl rfl dX6_changes_61)
theorem inX6_numberOf_6 : ∀ w ∈ u_ws RX6 TX6 23, w ∈ wsX6_numberOf := by decide +kernel
theorem lkX6_numberOf_55 : Cond.fieldLink RX6 55 "MergeAtelierModel" "told" "I" ∈ wsX6_numberOf := by decide +kernel
theorem lkX6_numberOf_58 : Cond.fieldLink RX6 58 "MergeAtelierModel" "values" "[I" ∈ wsX6_numberOf := by decide +kernel
set_option maxHeartbeats 4000000 in
set_option maxRecDepth 100000 in
theorem kX6_numberOf (l : Launch) (g : vG) {mm b1 b2 b3 b4 b5 b6 b7 b8 b9 b10 b11 b12 b13 b14 b15 b16 b17 : Nat} {kinds tgs first second vals qs : Nat → Int} {hds An qi qo Tm Nw Kw ris : Nat → Nat} {ni bc cm cn qc cd : Nat} {x : Int} (hcn : cn ≤ 100) (hx : b31 x) (hv : ∀ k, -1000 ≤ vals k ∧ vals k ≤ 999) : mI l g yX6_numberOf wsX6_numberOf ({ frames := 0, cells := 0, slots := 0, locals := 0 }) [.ref (mm), .int (iI (x))] (wMM g mm b1 b2 b3 b4 b5 b6 b7 b8 b9 b10 b11 b12 b13 b14 b15 b16 b17 kinds ni cm first second An An Tm Tm bc hds tgs qc qi qo qs cn vals Nw Nw Kw Kw cd ++ ([])) (fun _ : Unit => wMM g mm b1 b2 b3 b4 b5 b6 b7 b8 b9 b10 b11 b12 b13 b14 b15 b16 b17 kinds ni cm first second An An Tm Tm bc hds tgs qc qi qo qs (tCn vals cn (x)) (tVals vals cn (x)) Nw Nw Kw Kw cd ++ ([])) (fun v _ => v = iI ((nOf vals x cn : Nat) : Int)) 0 0 := by
  refine mI_of (cc := cX6_numberOf) (maxL := 3) (ret := (some .int)) (own := RX6) (by decide) rfl rfl (Nat.le_of_ble_eq_true rfl) ?_
  intro p e s m args below meth c A C hr hl hin
  have hx1 := hx.1
  have hx2 := hx.2
  refine v_iconst C (z := 0) dX6_numberOf_0 ?_
  refine v_istore_n C [(2, .int (iI (0))), (0, .ref (mm)), (1, .int (iI (x)))] dX6_numberOf_1 rfl (by decide) rfl ?_
  refine v_lv (lv' := [(0, .ref (mm)), (1, .int (iI (x))), (2, .int (iI ((0 : Nat) : Int)))]) [1, 2, 0] rfl ?_
  refine v_lp1 (X := Nat) (fun q => wMM g mm b1 b2 b3 b4 b5 b6 b7 b8 b9 b10 b11 b12 b13 b14 b15 b16 b17 kinds ni cm first second An An Tm Tm bc hds tgs qc qi qo qs cn vals Nw Nw Kw Kw cd ++ ([])) (fun q => [(0, .ref (mm)), (1, .int (iI (x))), (2, .int (iI ((q : Nat) : Int)))]) (fun q => cn - q) (fun q => q ≤ cn ∧ nOf vals x q = q) ?_ (0) ⟨Nat.zero_le _, rfl⟩
  intro q hJ2 ih2
  try dsimp only at hJ2 ⊢
  refine v_iload_n C dX6_numberOf_2 rfl 2 rfl ?_
  refine v_aload_n C dX6_numberOf_3 rfl 0 rfl ?_
  refine v_get C 0 (kf := 16) rfl rfl (by decide) inX6_numberOf_6 lkX6_numberOf_55 rfl rfl dX6_numberOf_4 ?_
  refine v_icmp_ge C 28 dX6_numberOf_7 (by decide) ⟨by omega, by omega⟩ ⟨by omega, by omega⟩ (fun c_1 => ?_) (fun c_1 => ?_)
  ·
    obtain rfl : cn = q := by omega
    have hf : ¬ nOf vals x cn < cn := by rw [hJ2.2]; exact Nat.lt_irrefl _
    refine v_aload_n C dX6_numberOf_28 rfl 0 rfl ?_
    refine v_get C 0 (kf := 17) rfl rfl (by decide) inX6_numberOf_6 lkX6_numberOf_58 rfl rfl dX6_numberOf_29 ?_
    refine v_aload_n C dX6_numberOf_32 rfl 0 rfl ?_
    refine v_get C 0 (kf := 16) rfl rfl (by decide) inX6_numberOf_6 lkX6_numberOf_55 rfl rfl dX6_numberOf_33 ?_
    refine v_iload_n C dX6_numberOf_36 rfl 1 rfl ?_
    refine v_iast C 13 (cn) (wMM g mm b1 b2 b3 b4 b5 b6 b7 b8 b9 b10 b11 b12 b13 b14 b15 b16 b17 kinds ni cm first second An An Tm Tm bc hds tgs qc qi qo qs cn (updZ vals (cn) (x)) Nw Nw Kw Kw cd ++ ([])) rfl rfl (by omega) (by decide) dX6_numberOf_37 rfl ?_
    refine v_aload_n C dX6_numberOf_38 rfl 0 rfl ?_
    refine v_dup C dX6_numberOf_39 rfl ?_
    refine v_get C 0 (kf := 16) rfl rfl (by decide) inX6_numberOf_6 lkX6_numberOf_55 rfl rfl dX6_numberOf_40 ?_
    refine v_iconst C (z := 1) dX6_numberOf_43 ?_
    refine v_iadd C dX6_numberOf_44 ?_
    rw [show (((cn : Nat) : Int)) + 1 = ((cn + 1 : Nat) : Int) from rfl]
    refine v_put C 0 (kf := 16) (wMM g mm b1 b2 b3 b4 b5 b6 b7 b8 b9 b10 b11 b12 b13 b14 b15 b16 b17 kinds ni cm first second An An Tm Tm bc hds tgs qc qi qo qs (cn + 1) (updZ vals (cn) (x)) Nw Nw Kw Kw cd ++ ([])) rfl rfl (by decide) inX6_numberOf_6 lkX6_numberOf_55 rfl tyX6_ok nmX6 rfl rfl rfl (Nat.le_of_ble_eq_true rfl) dX6_numberOf_45 rfl ?_
    refine v_aload_n C dX6_numberOf_48 rfl 0 rfl ?_
    refine v_get C 0 (kf := 16) rfl rfl (by decide) inX6_numberOf_6 lkX6_numberOf_55 rfl rfl dX6_numberOf_49 ?_
    refine v_iconst C (z := 1) dX6_numberOf_52 ?_
    refine v_isub C dX6_numberOf_53 ?_
    exact (v_iret C hr hl () (by decide) (by decide) (by unfold tVals tCn; rw [if_neg hf, if_neg hf]) (congrArg iI (by rw [hJ2.2]; omega)) dX6_numberOf_54)
  ·
    have hvq := hv q
    refine v_aload_n C dX6_numberOf_10 rfl 0 rfl ?_
    refine v_get C 0 (kf := 17) rfl rfl (by decide) inX6_numberOf_6 lkX6_numberOf_58 rfl rfl dX6_numberOf_11 ?_
    refine v_iload_n C dX6_numberOf_14 rfl 2 rfl ?_
    refine v_iald C 13 (q) rfl rfl (by omega) (by decide) dX6_numberOf_15 ?_
    refine v_iload_n C dX6_numberOf_16 rfl 1 rfl ?_
    refine v_icmp_ne C 22 dX6_numberOf_17 (by decide) ⟨by omega, by omega⟩ ⟨by omega, by omega⟩ (fun c_2 => ?_) (fun c_2 => ?_)
    ·
      refine v_iinc C [(2, .int (iI (((q : Nat) : Int) + 1))), (0, .ref (mm)), (1, .int (iI (x)))] dX6_numberOf_22 2 rfl (by decide) rfl ?_
      rw [show ((q : Nat) : Int) + 1 = ((q + 1 : Nat) : Int) from rfl]
      refine v_goto C 2 dX6_numberOf_25 (by decide) ?_
      refine v_lv (lv' := [(0, .ref (mm)), (1, .int (iI (x))), (2, .int (iI ((q + 1 : Nat) : Int)))]) [1, 2, 0] rfl ?_
      exact ih2 (q + 1) ⟨by omega, nOf_miss hJ2.2 c_2⟩ (by omega)
    ·
      have hf : nOf vals x cn < cn := by rw [nOf_hit hJ2.2 c_2 cn (by omega)]; omega
      refine v_iload_n C dX6_numberOf_20 rfl 2 rfl ?_
      exact (v_iret C hr hl () (by decide) (by decide) (by unfold tVals tCn; rw [if_pos hf, if_pos hf]) (congrArg (fun z : Nat => iI (z : Int)) (by rw [nOf_hit hJ2.2 c_2 cn (by omega)])) dX6_numberOf_21)
/-- the n first places by F, the others as before -/
def npF (N : Nat → Nat) (n : Nat) (F : Nat → Nat) : Nat → Nat := fun k => if k < n then F k else N k
theorem npF_0 (N F : Nat → Nat) : npF N 0 F = N := funext fun k => if_neg (Nat.not_lt_zero k)
theorem np_step {N F : Nat → Nat} {q v : Nat} (h : F q = v) : updN (npF N q F) q v = npF N (q + 1) F := by
  funext k
  unfold updN npF
  by_cases e : k = q
  · subst e
    rw [if_pos rfl, if_pos (by omega), h]
  · rw [if_neg e]
    by_cases e2 : k < q
    · rw [if_pos e2, if_pos (by omega)]
    · rw [if_neg e2, if_neg (by omega)]
def NOK (cn ni : Nat) (N : Nat → Nat) : Prop := ∀ i, i < ni → 0 < N i ∧ N i < 2 ^ cn
theorem or_ok {cn a b : Nat} (ha : 0 < a ∧ a < 2 ^ cn) (hb : b < 2 ^ cn) : 0 < a ||| b ∧ a ||| b < 2 ^ cn := ⟨Nat.lt_of_lt_of_le ha.1 Nat.left_le_or, Nat.or_lt_two_pow ha.2 hb⟩
theorem mg_ok {cn a b d : Nat} (ha : 0 < a ∧ a < 2 ^ cn) (hb : 0 < b ∧ b < 2 ^ cn) : 0 < mg a b d ∧ mg a b d < 2 ^ cn := by
  unfold mg
  by_cases h : a = b ∨ b = d
  · rw [if_pos h]; exact ha
  · rw [if_neg h]
    by_cases h2 : a = d
    · rw [if_pos h2]; exact hb
    · rw [if_neg h2]; exact or_ok ha hb.2
theorem np_ok {cn cm ni : Nat} {T N : Nat → Nat} (h : TOK cn cm ni T) {f s b : Nat} (hf : f < cm) (hs : s < cm) : NOK cn ni (npF N ni (mgF T f s b)) := fun i hi => by
  unfold npF
  rw [if_pos hi]
  exact mg_ok (h f hf i hi) (h s hs i hi)
def mqstep (vals : Nat → Int) (cn : Nat) (qi qo : Nat → Nat) (qs : Nat → Int) (f s : Nat) (T N : Nat → Nat) (q : Nat) : Nat → Nat :=
  if qst vals cn (qs q) (T (12 * f + qi q)) (T (12 * f + qo q)) = 0 ∧ qst vals cn (qs q) (T (12 * s + qi q)) (T (12 * s + qo q)) = 0 ∧ qst vals cn (qs q) (N (qi q)) (N (qo q)) = 1 then
    updN (updN N (qi q) (T (12 * f + qi q) ||| T (12 * s + qi q))) (qo q) (T (12 * f + qo q) ||| T (12 * s + qo q))
  else N
def mqp (vals : Nat → Int) (cn : Nat) (qi qo : Nat → Nat) (qs : Nat → Int) (f s : Nat) (T N : Nat → Nat) : Nat → Nat → Nat
  | 0 => N
  | q + 1 => mqstep vals cn qi qo qs f s T (mqp vals cn qi qo qs f s T N q) q
theorem mqp_s (vals : Nat → Int) (cn : Nat) (qi qo : Nat → Nat) (qs : Nat → Int) (f s : Nat) (T N : Nat → Nat) (q : Nat) : mqp vals cn qi qo qs f s T N (q + 1) = mqstep vals cn qi qo qs f s T (mqp vals cn qi qo qs f s T N q) q := rfl
theorem mqs_ok {vals : Nat → Int} {cn cm ni : Nat} {qi qo : Nat → Nat} {qs : Nat → Int} {f s q : Nat} {T N : Nat → Nat} (h : TOK cn cm ni T) (hf : f < cm) (hs : s < cm) (hN : NOK cn ni N) (h1 : qi q < ni) (h2 : qo q < ni) : NOK cn ni (mqstep vals cn qi qo qs f s T N q) := by
  unfold mqstep
  split
  · intro i hi
    unfold updN
    by_cases e : i = qo q
    · rw [if_pos e]; exact or_ok (h f hf _ h2) (h s hs _ h2).2
    · rw [if_neg e]
      by_cases e2 : i = qi q
      · rw [if_pos e2]; exact or_ok (h f hf _ h1) (h s hs _ h1).2
      · rw [if_neg e2]; exact hN i hi
  · exact hN
theorem mqp_ok {vals : Nat → Int} {cn cm ni qc : Nat} {qi qo : Nat → Nat} {qs : Nat → Int} {f s : Nat} {T N : Nat → Nat} (h : TOK cn cm ni T) (hf : f < cm) (hs : s < cm) (hN : NOK cn ni N) (hq : ∀ k, k < qc → qi k < ni ∧ qo k < ni) : ∀ q, q ≤ qc → NOK cn ni (mqp vals cn qi qo qs f s T N q)
  | 0, _ => hN
  | q + 1, e => mqs_ok h hf hs (mqp_ok h hf hs hN hq q (by omega)) (hq q (by omega)).1 (hq q (by omega)).2
/-- what the reference's merge tells -/
def mgN (vals : Nat → Int) (cn : Nat) (qi qo : Nat → Nat) (qs : Nat → Int) (An T : Nat → Nat) (f s ni qc : Nat) (N : Nat → Nat) : Nat → Nat := mqp vals cn qi qo qs f s T (npF N ni (mgF T f s (gsh (An f &&& An s) (min f s)))) qc
theorem mgN_ok {vals : Nat → Int} {cn cm ni qc : Nat} {qi qo : Nat → Nat} {qs : Nat → Int} {An T N : Nat → Nat} {f s : Nat} (h : TOK cn cm ni T) (hf : f < cm) (hs : s < cm) (hq : ∀ k, k < qc → qi k < ni ∧ qo k < ni) : NOK cn ni (mgN vals cn qi qo qs An T f s ni qc N) := mqp_ok h hf hs (np_ok h hf hs) hq qc (Nat.le_refl _)
theorem qst_w {vals : Nat → Int} {cn : Nat} {sh : Int} {a b : Nat} (h : decide (qst vals cn sh a b = 1) = true) : ¬ qst vals cn sh a b = 0 := by
  have := of_decide_eq_true h
  omega
theorem qst_o {vals : Nat → Int} {cn : Nat} {sh : Int} {a b : Nat} (h : decide (1 < cnt a ∨ 1 < cnt b) = true) : ¬ qst vals cn sh a b = 0 := by
  unfold qst
  rw [if_pos (of_decide_eq_true h)]
  decide
theorem qst_0 {vals : Nat → Int} {cn : Nat} {sh : Int} {a b : Nat} (h1 : decide (qst vals cn sh a b = 1) = false) (h2 : decide (1 < cnt a ∨ 1 < cnt b) = false) : qst vals cn sh a b = 0 := by
  have h3 := of_decide_eq_false h1
  have h4 := of_decide_eq_false h2
  unfold qst at h3 ⊢
  rw [if_neg h4] at h3 ⊢
  by_cases e : lone a vals cn = -1000 ∨ lone b vals cn = -1000
  · rw [if_pos e] at h3 ⊢
    by_cases e2 : lone a vals cn = lone b vals cn
    · rw [if_pos e2]
    · rw [if_neg e2] at h3; exact absurd rfl h3
  · rw [if_neg e] at h3 ⊢
    by_cases e2 : lone a vals cn - lone b vals cn = sh
    · rw [if_pos e2]
    · rw [if_neg e2] at h3; exact absurd rfl h3
theorem inX6_merges_6 : ∀ w ∈ u_ws RX6 TX6 23, w ∈ wsX6_merges := by decide +kernel
theorem lkX6_merges_76 : Cond.fieldLink RX6 76 "MergeAtelierModel" "items" "I" ∈ wsX6_merges := by decide +kernel
theorem lkX6_merges_175 : Cond.fieldLink RX6 175 "MergeAtelierModel" "quotes" "I" ∈ wsX6_merges := by decide +kernel
theorem lkX6_merges_46 : Cond.fieldLink RX6 46 "MergeAtelierModel" "quoteItems" "[I" ∈ wsX6_merges := by decide +kernel
theorem lkX6_merges_49 : Cond.fieldLink RX6 49 "MergeAtelierModel" "quoteOthers" "[I" ∈ wsX6_merges := by decide +kernel
theorem lkX6_merges_61 : Cond.fieldLink RX6 61 "MergeAtelierModel" "newLow" "[J" ∈ wsX6_merges := by decide +kernel
theorem lkX6_merges_64 : Cond.fieldLink RX6 64 "MergeAtelierModel" "newHigh" "[J" ∈ wsX6_merges := by decide +kernel
set_option maxHeartbeats 4000000 in
set_option maxRecDepth 100000 in
theorem kX6_merges (l : Launch) (g : vG) {mm b1 b2 b3 b4 b5 b6 b7 b8 b9 b10 b11 b12 b13 b14 b15 b16 b17 : Nat} {kinds tgs first second vals qs : Nat → Int} {hds An qi qo Tm Nw Kw ris : Nat → Nat} {ni bc cm cn qc cd : Nat} {f0 s0 : Nat} (hI : MI vals ris cn kinds tgs first second qs hds An qi qo Tm ni bc cm qc) (hf0 : f0 < cm) (hs0 : s0 < cm) : mV l g yX6_merges wsX6_merges ({ frames := 4, cells := 0, slots := 0, locals := 107 }) [.ref (mm), .int (iI ((f0 : Nat) : Int)), .int (iI ((s0 : Nat) : Int))] (wMM g mm b1 b2 b3 b4 b5 b6 b7 b8 b9 b10 b11 b12 b13 b14 b15 b16 b17 kinds ni cm first second An An Tm Tm bc hds tgs qc qi qo qs cn vals Nw Nw Kw Kw cd ++ ([])) (fun _ : Unit => wMM g mm b1 b2 b3 b4 b5 b6 b7 b8 b9 b10 b11 b12 b13 b14 b15 b16 b17 kinds ni cm first second An An Tm Tm bc hds tgs qc qi qo qs cn vals (mgN vals cn qi qo qs An Tm f0 s0 ni qc Nw) (mgN vals cn qi qo qs An Tm f0 s0 ni qc Nw) Kw Kw cd ++ ([])) (fun _ => True) 0 0 := by
  refine mV_of (cc := cX6_merges) (maxL := 8) (ret := none) (own := RX6) (by decide) rfl rfl (Nat.le_of_ble_eq_true rfl) ?_
  intro p e s m args below meth c A C hr hl hin
  obtain ⟨hni, hbc1, hbc, hcm1, hcm, hcn1, hnm, hqc, hhd, htg, hf, hs, hfc, hsc, hAn, hTm, hao, hpal, hqb, hqi, htk, hkd⟩ := id hI
  have hbb : (gsh (An f0 &&& An s0) (min f0 s0)) < cm := base_lt hf0
  refine v_aload_n C dX6_merges_0 rfl 0 rfl ?_
  refine v_iload_n C dX6_merges_1 rfl 1 rfl ?_
  refine v_iload_n C dX6_merges_2 rfl 2 rfl ?_
  refine v_invVI C (As := [.int (iI ((f0 : Nat) : Int)), .int (iI ((s0 : Nat) : Int))]) (q0 := 0) (ci := 6) (kX6_baseOf l g (mm := mm) (b1 := b1) (b2 := b2) (b3 := b3) (b4 := b4) (b5 := b5) (b6 := b6) (b7 := b7) (b8 := b8) (b9 := b9) (b10 := b10) (b11 := b11) (b12 := b12) (b13 := b13) (b14 := b14) (b15 := b15) (b16 := b16) (b17 := b17) (kinds := kinds) (tgs := tgs) (first := first) (second := second) (vals := vals) (qs := qs) (hds := hds) (An := An) (qi := qi) (qo := qo) (Tm := Tm) (Nw := Nw) (Kw := Kw) (ni := ni) (bc := bc) (cm := cm) (cn := cn) (qc := qc) (cd := cd) (ris := ris) (c0 := f0) (d0 := s0) hI (by omega) (by omega)) (cwV 2 C.2.2.2.2.1 gX6_merges_X6_baseOf rfl rfl rfl (by decide +kernel) ⟨Nat.le_of_ble_eq_true rfl, Nat.le_of_ble_eq_true rfl⟩) [wMM g mm b1 b2 b3 b4 b5 b6 b7 b8 b9 b10 b11 b12 b13 b14 b15 b16 b17 kinds ni cm first second An An Tm Tm bc hds tgs qc qi qo qs cn vals Nw Nw Kw Kw cd] [0] [] [] (fun _ => [wMM g mm b1 b2 b3 b4 b5 b6 b7 b8 b9 b10 b11 b12 b13 b14 b15 b16 b17 kinds ni cm first second An An Tm Tm bc hds tgs qc qi qo qs cn vals Nw Nw Kw Kw cd]) (fun _ => wMM g mm b1 b2 b3 b4 b5 b6 b7 b8 b9 b10 b11 b12 b13 b14 b15 b16 b17 kinds ni cm first second An An Tm Tm bc hds tgs qc qi qo qs cn vals Nw Nw Kw Kw cd ++ ([])) rfl rfl rfl (fun _ => rfl) (fun _ => rfl) (fun _ => rfl) (fun _ => rfl) rfl rfl rfl rfl rfl (Nat.le_of_ble_eq_true rfl) dX6_merges_3 ⟨by decide, by decide⟩ (fun r_2 _ h_1 => ?_)
  subst h_1
  refine v_istore_n C [(3, .int (iI ((gsh (An f0 &&& An s0) (min f0 s0) : Nat) : Int))), (0, .ref (mm)), (1, .int (iI ((f0 : Nat) : Int))), (2, .int (iI ((s0 : Nat) : Int)))] dX6_merges_6 rfl (by decide) rfl ?_
  refine v_iconst C (z := 0) dX6_merges_7 ?_
  refine v_istore C [(4, .int (iI (0))), (3, .int (iI ((gsh (An f0 &&& An s0) (min f0 s0) : Nat) : Int))), (0, .ref (mm)), (1, .int (iI ((f0 : Nat) : Int))), (2, .int (iI ((s0 : Nat) : Int)))] dX6_merges_8 (by decide) rfl ?_
  refine v_lv (lv' := [(0, .ref (mm)), (1, .int (iI ((f0 : Nat) : Int))), (2, .int (iI ((s0 : Nat) : Int))), (3, .int (iI ((gsh (An f0 &&& An s0) (min f0 s0) : Nat) : Int))), (4, .int (iI ((0 : Nat) : Int)))]) [2, 3, 4, 1, 0] rfl ?_
  refine v_ws (ws' := wMM g mm b1 b2 b3 b4 b5 b6 b7 b8 b9 b10 b11 b12 b13 b14 b15 b16 b17 kinds ni cm first second An An Tm Tm bc hds tgs qc qi qo qs cn vals (npF Nw 0 (mgF Tm f0 s0 (gsh (An f0 &&& An s0) (min f0 s0)))) (npF Nw 0 (mgF Tm f0 s0 (gsh (An f0 &&& An s0) (min f0 s0)))) Kw Kw cd ++ ([])) (by rw [npF_0]) ?_
  refine v_lp1 (X := Nat) (fun q => wMM g mm b1 b2 b3 b4 b5 b6 b7 b8 b9 b10 b11 b12 b13 b14 b15 b16 b17 kinds ni cm first second An An Tm Tm bc hds tgs qc qi qo qs cn vals (npF Nw q (mgF Tm f0 s0 (gsh (An f0 &&& An s0) (min f0 s0)))) (npF Nw q (mgF Tm f0 s0 (gsh (An f0 &&& An s0) (min f0 s0)))) Kw Kw cd ++ ([])) (fun q => [(0, .ref (mm)), (1, .int (iI ((f0 : Nat) : Int))), (2, .int (iI ((s0 : Nat) : Int))), (3, .int (iI ((gsh (An f0 &&& An s0) (min f0 s0) : Nat) : Int))), (4, .int (iI ((q : Nat) : Int)))]) (fun q => ni - q) (fun q => q ≤ ni) ?_ (0) (Nat.zero_le _)
  intro q hJ10 ih10
  try dsimp only at hJ10 ⊢
  refine v_iload C dX6_merges_10 4 rfl ?_
  refine v_aload_n C dX6_merges_12 rfl 0 rfl ?_
  refine v_get C 0 (kf := 0) rfl rfl (by decide) inX6_merges_6 lkX6_merges_76 rfl rfl dX6_merges_13 ?_
  refine v_icmp_ge C 88 dX6_merges_16 (by decide) ⟨by omega, by omega⟩ ⟨by omega, by omega⟩ (fun c_3 => ?_) (fun c_3 => ?_)
  ·
    obtain rfl : ni = q := by omega
    refine v_iconst C (z := 0) dX6_merges_88 ?_
    refine v_istore C [(4, .int (iI (0))), (0, .ref (mm)), (1, .int (iI ((f0 : Nat) : Int))), (2, .int (iI ((s0 : Nat) : Int))), (3, .int (iI ((gsh (An f0 &&& An s0) (min f0 s0) : Nat) : Int)))] dX6_merges_89 (by decide) rfl ?_
    refine v_lv (lv' := [(0, .ref (mm)), (1, .int (iI ((f0 : Nat) : Int))), (2, .int (iI ((s0 : Nat) : Int))), (4, .int (iI ((0 : Nat) : Int)))]) [1, 2, 3, 0] rfl ?_
    refine v_ws (ws' := wMM g mm b1 b2 b3 b4 b5 b6 b7 b8 b9 b10 b11 b12 b13 b14 b15 b16 b17 kinds ni cm first second An An Tm Tm bc hds tgs qc qi qo qs cn vals (mqp vals cn qi qo qs f0 s0 Tm (npF Nw ni (mgF Tm f0 s0 (gsh (An f0 &&& An s0) (min f0 s0)))) 0) (mqp vals cn qi qo qs f0 s0 Tm (npF Nw ni (mgF Tm f0 s0 (gsh (An f0 &&& An s0) (min f0 s0)))) 0) Kw Kw cd ++ ([])) rfl ?_
    refine v_lp1 (X := Nat) (fun q => wMM g mm b1 b2 b3 b4 b5 b6 b7 b8 b9 b10 b11 b12 b13 b14 b15 b16 b17 kinds ni cm first second An An Tm Tm bc hds tgs qc qi qo qs cn vals (mqp vals cn qi qo qs f0 s0 Tm (npF Nw ni (mgF Tm f0 s0 (gsh (An f0 &&& An s0) (min f0 s0)))) q) (mqp vals cn qi qo qs f0 s0 Tm (npF Nw ni (mgF Tm f0 s0 (gsh (An f0 &&& An s0) (min f0 s0)))) q) Kw Kw cd ++ ([])) (fun q => [(0, .ref (mm)), (1, .int (iI ((f0 : Nat) : Int))), (2, .int (iI ((s0 : Nat) : Int))), (4, .int (iI ((q : Nat) : Int)))]) (fun q => qc - q) (fun q => q ≤ qc) ?_ (0) (Nat.zero_le _)
    intro q hJ91 ih91
    try dsimp only at hJ91 ⊢
    refine v_iload C dX6_merges_91 3 rfl ?_
    refine v_aload_n C dX6_merges_93 rfl 0 rfl ?_
    refine v_get C 0 (kf := 12) rfl rfl (by decide) inX6_merges_6 lkX6_merges_175 rfl rfl dX6_merges_94 ?_
    refine v_icmp_ge C 232 dX6_merges_97 (by decide) ⟨by omega, by omega⟩ ⟨by omega, by omega⟩ (fun c_4 => ?_) (fun c_4 => ?_)
    ·
      obtain rfl : qc = q := by omega
      exact (v_vret C hr hl () (by decide) (by decide) rfl trivial dX6_merges_232)
    ·
      have hN9 : NOK cn ni (mqp vals cn qi qo qs f0 s0 Tm (npF Nw ni (mgF Tm f0 s0 (gsh (An f0 &&& An s0) (min f0 s0)))) q) := mqp_ok htk hf0 hs0 (np_ok htk hf0 hs0) hqi q (by omega)
      obtain ⟨hq1, hq2⟩ := hqi q (by omega)
      obtain ⟨hb1, hb2, hb3, hb4⟩ := hqb q (by omega)
      refine v_aload_n C dX6_merges_100 rfl 0 rfl ?_
      refine v_iload C dX6_merges_101 3 rfl ?_
      refine v_iload_n C dX6_merges_103 rfl 1 rfl ?_
      refine v_invVI C (As := [.int (iI ((q : Nat) : Int)), .int (iI ((f0 : Nat) : Int))]) (q0 := 0) (ci := 6) (kX6_isWrongIn l g (mm := mm) (b1 := b1) (b2 := b2) (b3 := b3) (b4 := b4) (b5 := b5) (b6 := b6) (b7 := b7) (b8 := b8) (b9 := b9) (b10 := b10) (b11 := b11) (b12 := b12) (b13 := b13) (b14 := b14) (b15 := b15) (b16 := b16) (b17 := b17) (kinds := kinds) (tgs := tgs) (first := first) (second := second) (vals := vals) (qs := qs) (hds := hds) (An := An) (qi := qi) (qo := qo) (Tm := Tm) (Nw := mqp vals cn qi qo qs f0 s0 Tm (npF Nw ni (mgF Tm f0 s0 (gsh (An f0 &&& An s0) (min f0 s0)))) q) (Kw := Kw) (ni := ni) (bc := bc) (cm := cm) (cn := cn) (qc := qc) (cd := cd) (ris := ris) (q0 := q) (c0 := f0) hI (by omega) (by omega)) (cwV 2 C.2.2.2.2.1 gX6_merges_X6_isWrongIn rfl rfl rfl (by decide +kernel) ⟨Nat.le_of_ble_eq_true rfl, Nat.le_of_ble_eq_true rfl⟩) [wMM g mm b1 b2 b3 b4 b5 b6 b7 b8 b9 b10 b11 b12 b13 b14 b15 b16 b17 kinds ni cm first second An An Tm Tm bc hds tgs qc qi qo qs cn vals (mqp vals cn qi qo qs f0 s0 Tm (npF Nw ni (mgF Tm f0 s0 (gsh (An f0 &&& An s0) (min f0 s0)))) q) (mqp vals cn qi qo qs f0 s0 Tm (npF Nw ni (mgF Tm f0 s0 (gsh (An f0 &&& An s0) (min f0 s0)))) q) Kw Kw cd] [0] [] [] (fun _ => [wMM g mm b1 b2 b3 b4 b5 b6 b7 b8 b9 b10 b11 b12 b13 b14 b15 b16 b17 kinds ni cm first second An An Tm Tm bc hds tgs qc qi qo qs cn vals (mqp vals cn qi qo qs f0 s0 Tm (npF Nw ni (mgF Tm f0 s0 (gsh (An f0 &&& An s0) (min f0 s0)))) q) (mqp vals cn qi qo qs f0 s0 Tm (npF Nw ni (mgF Tm f0 s0 (gsh (An f0 &&& An s0) (min f0 s0)))) q) Kw Kw cd]) (fun _ => wMM g mm b1 b2 b3 b4 b5 b6 b7 b8 b9 b10 b11 b12 b13 b14 b15 b16 b17 kinds ni cm first second An An Tm Tm bc hds tgs qc qi qo qs cn vals (mqp vals cn qi qo qs f0 s0 Tm (npF Nw ni (mgF Tm f0 s0 (gsh (An f0 &&& An s0) (min f0 s0)))) q) (mqp vals cn qi qo qs f0 s0 Tm (npF Nw ni (mgF Tm f0 s0 (gsh (An f0 &&& An s0) (min f0 s0)))) q) Kw Kw cd ++ ([])) rfl rfl rfl (fun _ => rfl) (fun _ => rfl) (fun _ => rfl) (fun _ => rfl) rfl rfl rfl rfl rfl (Nat.le_of_ble_eq_true rfl) dX6_merges_104 ⟨by decide, by decide⟩ (fun r_6 _ h_5 => ?_)
      subst h_5
      refine v_ifz_ne C 144 dX6_merges_107 (by decide) (fun c_7 => ?_) (fun c_7 => ?_)
      ·
        refine v_iconst C (z := 0) dX6_merges_144 ?_
        refine v_istore C [(5, .int (iI (0))), (0, .ref (mm)), (1, .int (iI ((f0 : Nat) : Int))), (2, .int (iI ((s0 : Nat) : Int))), (4, .int (iI ((q : Nat) : Int)))] dX6_merges_145 (by decide) rfl ?_
        refine v_aload_n C dX6_merges_147 rfl 1 rfl ?_
        refine v_get C 0 (kf := 13) rfl rfl (by decide) inX6_merges_6 lkX6_merges_46 rfl rfl dX6_merges_148 ?_
        refine v_iload C dX6_merges_151 4 rfl ?_
        refine v_ialdn C 10 (q) rfl rfl (by omega) (by decide) dX6_merges_153 ?_
        refine v_istore C [(6, .int (iI ((qi (q) : Nat) : Int))), (5, .int (iI (0))), (0, .ref (mm)), (1, .int (iI ((f0 : Nat) : Int))), (2, .int (iI ((s0 : Nat) : Int))), (4, .int (iI ((q : Nat) : Int)))] dX6_merges_154 (by decide) rfl ?_
        refine v_aload_n C dX6_merges_156 rfl 2 rfl ?_
        refine v_get C 0 (kf := 14) rfl rfl (by decide) inX6_merges_6 lkX6_merges_49 rfl rfl dX6_merges_157 ?_
        refine v_iload C dX6_merges_160 5 rfl ?_
        refine v_ialdn C 11 (q) rfl rfl (by omega) (by decide) dX6_merges_162 ?_
        refine v_istore C [(7, .int (iI ((qo (q) : Nat) : Int))), (6, .int (iI ((qi (q) : Nat) : Int))), (5, .int (iI (0))), (0, .ref (mm)), (1, .int (iI ((f0 : Nat) : Int))), (2, .int (iI ((s0 : Nat) : Int))), (4, .int (iI ((q : Nat) : Int)))] dX6_merges_163 (by decide) rfl ?_
        refine v_iload C dX6_merges_165 2 rfl ?_
        refine v_if_eq C 226 dX6_merges_167 (by decide) (b31_lit _ rfl) (fun _ => ?_) (fun h => absurd h (by decide))
        refine v_iinc C [(4, .int (iI (((q : Nat) : Int) + 1))), (7, .int (iI ((qo (q) : Nat) : Int))), (6, .int (iI ((qi (q) : Nat) : Int))), (5, .int (iI (0))), (0, .ref (mm)), (1, .int (iI ((f0 : Nat) : Int))), (2, .int (iI ((s0 : Nat) : Int)))] dX6_merges_226 6 rfl (by decide) rfl ?_
        rw [show ((q : Nat) : Int) + 1 = ((q + 1 : Nat) : Int) from rfl]
        refine v_goto C 91 dX6_merges_229 (by decide) ?_
        refine v_lv (lv' := [(0, .ref (mm)), (1, .int (iI ((f0 : Nat) : Int))), (2, .int (iI ((s0 : Nat) : Int))), (4, .int (iI ((q + 1 : Nat) : Int)))]) [4, 5, 6, 0] rfl ?_
        refine v_ws (ws' := wMM g mm b1 b2 b3 b4 b5 b6 b7 b8 b9 b10 b11 b12 b13 b14 b15 b16 b17 kinds ni cm first second An An Tm Tm bc hds tgs qc qi qo qs cn vals (mqp vals cn qi qo qs f0 s0 Tm (npF Nw ni (mgF Tm f0 s0 (gsh (An f0 &&& An s0) (min f0 s0)))) (q + 1)) (mqp vals cn qi qo qs f0 s0 Tm (npF Nw ni (mgF Tm f0 s0 (gsh (An f0 &&& An s0) (min f0 s0)))) (q + 1)) Kw Kw cd ++ ([])) (by rw [mqp_s]; unfold mqstep; rw [if_neg (fun x => qst_w c_7 x.1)]) ?_
        exact ih91 (q + 1) (by omega) (by omega)
      ·
        refine v_aload_n C dX6_merges_110 rfl 0 rfl ?_
        refine v_iload C dX6_merges_111 3 rfl ?_
        refine v_iload_n C dX6_merges_113 rfl 2 rfl ?_
        refine v_invVI C (As := [.int (iI ((q : Nat) : Int)), .int (iI ((s0 : Nat) : Int))]) (q0 := 0) (ci := 6) (kX6_isWrongIn l g (mm := mm) (b1 := b1) (b2 := b2) (b3 := b3) (b4 := b4) (b5 := b5) (b6 := b6) (b7 := b7) (b8 := b8) (b9 := b9) (b10 := b10) (b11 := b11) (b12 := b12) (b13 := b13) (b14 := b14) (b15 := b15) (b16 := b16) (b17 := b17) (kinds := kinds) (tgs := tgs) (first := first) (second := second) (vals := vals) (qs := qs) (hds := hds) (An := An) (qi := qi) (qo := qo) (Tm := Tm) (Nw := mqp vals cn qi qo qs f0 s0 Tm (npF Nw ni (mgF Tm f0 s0 (gsh (An f0 &&& An s0) (min f0 s0)))) q) (Kw := Kw) (ni := ni) (bc := bc) (cm := cm) (cn := cn) (qc := qc) (cd := cd) (ris := ris) (q0 := q) (c0 := s0) hI (by omega) (by omega)) (cwV 2 C.2.2.2.2.1 gX6_merges_X6_isWrongIn rfl rfl rfl (by decide +kernel) ⟨Nat.le_of_ble_eq_true rfl, Nat.le_of_ble_eq_true rfl⟩) [wMM g mm b1 b2 b3 b4 b5 b6 b7 b8 b9 b10 b11 b12 b13 b14 b15 b16 b17 kinds ni cm first second An An Tm Tm bc hds tgs qc qi qo qs cn vals (mqp vals cn qi qo qs f0 s0 Tm (npF Nw ni (mgF Tm f0 s0 (gsh (An f0 &&& An s0) (min f0 s0)))) q) (mqp vals cn qi qo qs f0 s0 Tm (npF Nw ni (mgF Tm f0 s0 (gsh (An f0 &&& An s0) (min f0 s0)))) q) Kw Kw cd] [0] [] [] (fun _ => [wMM g mm b1 b2 b3 b4 b5 b6 b7 b8 b9 b10 b11 b12 b13 b14 b15 b16 b17 kinds ni cm first second An An Tm Tm bc hds tgs qc qi qo qs cn vals (mqp vals cn qi qo qs f0 s0 Tm (npF Nw ni (mgF Tm f0 s0 (gsh (An f0 &&& An s0) (min f0 s0)))) q) (mqp vals cn qi qo qs f0 s0 Tm (npF Nw ni (mgF Tm f0 s0 (gsh (An f0 &&& An s0) (min f0 s0)))) q) Kw Kw cd]) (fun _ => wMM g mm b1 b2 b3 b4 b5 b6 b7 b8 b9 b10 b11 b12 b13 b14 b15 b16 b17 kinds ni cm first second An An Tm Tm bc hds tgs qc qi qo qs cn vals (mqp vals cn qi qo qs f0 s0 Tm (npF Nw ni (mgF Tm f0 s0 (gsh (An f0 &&& An s0) (min f0 s0)))) q) (mqp vals cn qi qo qs f0 s0 Tm (npF Nw ni (mgF Tm f0 s0 (gsh (An f0 &&& An s0) (min f0 s0)))) q) Kw Kw cd ++ ([])) rfl rfl rfl (fun _ => rfl) (fun _ => rfl) (fun _ => rfl) (fun _ => rfl) rfl rfl rfl rfl rfl (Nat.le_of_ble_eq_true rfl) dX6_merges_114 ⟨by decide, by decide⟩ (fun r_9 _ h_8 => ?_)
        subst h_8
        refine v_ifz_ne C 144 dX6_merges_117 (by decide) (fun c_10 => ?_) (fun c_10 => ?_)
        ·
          refine v_iconst C (z := 0) dX6_merges_144 ?_
          refine v_istore C [(5, .int (iI (0))), (0, .ref (mm)), (1, .int (iI ((f0 : Nat) : Int))), (2, .int (iI ((s0 : Nat) : Int))), (4, .int (iI ((q : Nat) : Int)))] dX6_merges_145 (by decide) rfl ?_
          refine v_aload_n C dX6_merges_147 rfl 1 rfl ?_
          refine v_get C 0 (kf := 13) rfl rfl (by decide) inX6_merges_6 lkX6_merges_46 rfl rfl dX6_merges_148 ?_
          refine v_iload C dX6_merges_151 4 rfl ?_
          refine v_ialdn C 10 (q) rfl rfl (by omega) (by decide) dX6_merges_153 ?_
          refine v_istore C [(6, .int (iI ((qi (q) : Nat) : Int))), (5, .int (iI (0))), (0, .ref (mm)), (1, .int (iI ((f0 : Nat) : Int))), (2, .int (iI ((s0 : Nat) : Int))), (4, .int (iI ((q : Nat) : Int)))] dX6_merges_154 (by decide) rfl ?_
          refine v_aload_n C dX6_merges_156 rfl 2 rfl ?_
          refine v_get C 0 (kf := 14) rfl rfl (by decide) inX6_merges_6 lkX6_merges_49 rfl rfl dX6_merges_157 ?_
          refine v_iload C dX6_merges_160 5 rfl ?_
          refine v_ialdn C 11 (q) rfl rfl (by omega) (by decide) dX6_merges_162 ?_
          refine v_istore C [(7, .int (iI ((qo (q) : Nat) : Int))), (6, .int (iI ((qi (q) : Nat) : Int))), (5, .int (iI (0))), (0, .ref (mm)), (1, .int (iI ((f0 : Nat) : Int))), (2, .int (iI ((s0 : Nat) : Int))), (4, .int (iI ((q : Nat) : Int)))] dX6_merges_163 (by decide) rfl ?_
          refine v_iload C dX6_merges_165 2 rfl ?_
          refine v_if_eq C 226 dX6_merges_167 (by decide) (b31_lit _ rfl) (fun _ => ?_) (fun h => absurd h (by decide))
          refine v_iinc C [(4, .int (iI (((q : Nat) : Int) + 1))), (7, .int (iI ((qo (q) : Nat) : Int))), (6, .int (iI ((qi (q) : Nat) : Int))), (5, .int (iI (0))), (0, .ref (mm)), (1, .int (iI ((f0 : Nat) : Int))), (2, .int (iI ((s0 : Nat) : Int)))] dX6_merges_226 6 rfl (by decide) rfl ?_
          rw [show ((q : Nat) : Int) + 1 = ((q + 1 : Nat) : Int) from rfl]
          refine v_goto C 91 dX6_merges_229 (by decide) ?_
          refine v_lv (lv' := [(0, .ref (mm)), (1, .int (iI ((f0 : Nat) : Int))), (2, .int (iI ((s0 : Nat) : Int))), (4, .int (iI ((q + 1 : Nat) : Int)))]) [4, 5, 6, 0] rfl ?_
          refine v_ws (ws' := wMM g mm b1 b2 b3 b4 b5 b6 b7 b8 b9 b10 b11 b12 b13 b14 b15 b16 b17 kinds ni cm first second An An Tm Tm bc hds tgs qc qi qo qs cn vals (mqp vals cn qi qo qs f0 s0 Tm (npF Nw ni (mgF Tm f0 s0 (gsh (An f0 &&& An s0) (min f0 s0)))) (q + 1)) (mqp vals cn qi qo qs f0 s0 Tm (npF Nw ni (mgF Tm f0 s0 (gsh (An f0 &&& An s0) (min f0 s0)))) (q + 1)) Kw Kw cd ++ ([])) (by rw [mqp_s]; unfold mqstep; rw [if_neg (fun x => qst_w c_10 x.2.1)]) ?_
          exact ih91 (q + 1) (by omega) (by omega)
        ·
          refine v_aload_n C dX6_merges_120 rfl 0 rfl ?_
          refine v_iload C dX6_merges_121 3 rfl ?_
          refine v_iload_n C dX6_merges_123 rfl 1 rfl ?_
          refine v_invVI C (As := [.int (iI ((q : Nat) : Int)), .int (iI ((f0 : Nat) : Int))]) (q0 := 0) (ci := 6) (kX6_isOpenIn l g (mm := mm) (b1 := b1) (b2 := b2) (b3 := b3) (b4 := b4) (b5 := b5) (b6 := b6) (b7 := b7) (b8 := b8) (b9 := b9) (b10 := b10) (b11 := b11) (b12 := b12) (b13 := b13) (b14 := b14) (b15 := b15) (b16 := b16) (b17 := b17) (kinds := kinds) (tgs := tgs) (first := first) (second := second) (vals := vals) (qs := qs) (hds := hds) (An := An) (qi := qi) (qo := qo) (Tm := Tm) (Nw := mqp vals cn qi qo qs f0 s0 Tm (npF Nw ni (mgF Tm f0 s0 (gsh (An f0 &&& An s0) (min f0 s0)))) q) (Kw := Kw) (ni := ni) (bc := bc) (cm := cm) (cn := cn) (qc := qc) (cd := cd) (ris := ris) (q0 := q) (c0 := f0) hI (by omega) (by omega)) (cwV 2 C.2.2.2.2.1 gX6_merges_X6_isOpenIn rfl rfl rfl (by decide +kernel) ⟨Nat.le_of_ble_eq_true rfl, Nat.le_of_ble_eq_true rfl⟩) [wMM g mm b1 b2 b3 b4 b5 b6 b7 b8 b9 b10 b11 b12 b13 b14 b15 b16 b17 kinds ni cm first second An An Tm Tm bc hds tgs qc qi qo qs cn vals (mqp vals cn qi qo qs f0 s0 Tm (npF Nw ni (mgF Tm f0 s0 (gsh (An f0 &&& An s0) (min f0 s0)))) q) (mqp vals cn qi qo qs f0 s0 Tm (npF Nw ni (mgF Tm f0 s0 (gsh (An f0 &&& An s0) (min f0 s0)))) q) Kw Kw cd] [0] [] [] (fun _ => [wMM g mm b1 b2 b3 b4 b5 b6 b7 b8 b9 b10 b11 b12 b13 b14 b15 b16 b17 kinds ni cm first second An An Tm Tm bc hds tgs qc qi qo qs cn vals (mqp vals cn qi qo qs f0 s0 Tm (npF Nw ni (mgF Tm f0 s0 (gsh (An f0 &&& An s0) (min f0 s0)))) q) (mqp vals cn qi qo qs f0 s0 Tm (npF Nw ni (mgF Tm f0 s0 (gsh (An f0 &&& An s0) (min f0 s0)))) q) Kw Kw cd]) (fun _ => wMM g mm b1 b2 b3 b4 b5 b6 b7 b8 b9 b10 b11 b12 b13 b14 b15 b16 b17 kinds ni cm first second An An Tm Tm bc hds tgs qc qi qo qs cn vals (mqp vals cn qi qo qs f0 s0 Tm (npF Nw ni (mgF Tm f0 s0 (gsh (An f0 &&& An s0) (min f0 s0)))) q) (mqp vals cn qi qo qs f0 s0 Tm (npF Nw ni (mgF Tm f0 s0 (gsh (An f0 &&& An s0) (min f0 s0)))) q) Kw Kw cd ++ ([])) rfl rfl rfl (fun _ => rfl) (fun _ => rfl) (fun _ => rfl) (fun _ => rfl) rfl rfl rfl rfl rfl (Nat.le_of_ble_eq_true rfl) dX6_merges_124 ⟨by decide, by decide⟩ (fun r_12 _ h_11 => ?_)
          subst h_11
          refine v_ifz_ne C 144 dX6_merges_127 (by decide) (fun c_13 => ?_) (fun c_13 => ?_)
          ·
            refine v_iconst C (z := 0) dX6_merges_144 ?_
            refine v_istore C [(5, .int (iI (0))), (0, .ref (mm)), (1, .int (iI ((f0 : Nat) : Int))), (2, .int (iI ((s0 : Nat) : Int))), (4, .int (iI ((q : Nat) : Int)))] dX6_merges_145 (by decide) rfl ?_
            refine v_aload_n C dX6_merges_147 rfl 1 rfl ?_
            refine v_get C 0 (kf := 13) rfl rfl (by decide) inX6_merges_6 lkX6_merges_46 rfl rfl dX6_merges_148 ?_
            refine v_iload C dX6_merges_151 4 rfl ?_
            refine v_ialdn C 10 (q) rfl rfl (by omega) (by decide) dX6_merges_153 ?_
            refine v_istore C [(6, .int (iI ((qi (q) : Nat) : Int))), (5, .int (iI (0))), (0, .ref (mm)), (1, .int (iI ((f0 : Nat) : Int))), (2, .int (iI ((s0 : Nat) : Int))), (4, .int (iI ((q : Nat) : Int)))] dX6_merges_154 (by decide) rfl ?_
            refine v_aload_n C dX6_merges_156 rfl 2 rfl ?_
            refine v_get C 0 (kf := 14) rfl rfl (by decide) inX6_merges_6 lkX6_merges_49 rfl rfl dX6_merges_157 ?_
            refine v_iload C dX6_merges_160 5 rfl ?_
            refine v_ialdn C 11 (q) rfl rfl (by omega) (by decide) dX6_merges_162 ?_
            refine v_istore C [(7, .int (iI ((qo (q) : Nat) : Int))), (6, .int (iI ((qi (q) : Nat) : Int))), (5, .int (iI (0))), (0, .ref (mm)), (1, .int (iI ((f0 : Nat) : Int))), (2, .int (iI ((s0 : Nat) : Int))), (4, .int (iI ((q : Nat) : Int)))] dX6_merges_163 (by decide) rfl ?_
            refine v_iload C dX6_merges_165 2 rfl ?_
            refine v_if_eq C 226 dX6_merges_167 (by decide) (b31_lit _ rfl) (fun _ => ?_) (fun h => absurd h (by decide))
            refine v_iinc C [(4, .int (iI (((q : Nat) : Int) + 1))), (7, .int (iI ((qo (q) : Nat) : Int))), (6, .int (iI ((qi (q) : Nat) : Int))), (5, .int (iI (0))), (0, .ref (mm)), (1, .int (iI ((f0 : Nat) : Int))), (2, .int (iI ((s0 : Nat) : Int)))] dX6_merges_226 6 rfl (by decide) rfl ?_
            rw [show ((q : Nat) : Int) + 1 = ((q + 1 : Nat) : Int) from rfl]
            refine v_goto C 91 dX6_merges_229 (by decide) ?_
            refine v_lv (lv' := [(0, .ref (mm)), (1, .int (iI ((f0 : Nat) : Int))), (2, .int (iI ((s0 : Nat) : Int))), (4, .int (iI ((q + 1 : Nat) : Int)))]) [4, 5, 6, 0] rfl ?_
            refine v_ws (ws' := wMM g mm b1 b2 b3 b4 b5 b6 b7 b8 b9 b10 b11 b12 b13 b14 b15 b16 b17 kinds ni cm first second An An Tm Tm bc hds tgs qc qi qo qs cn vals (mqp vals cn qi qo qs f0 s0 Tm (npF Nw ni (mgF Tm f0 s0 (gsh (An f0 &&& An s0) (min f0 s0)))) (q + 1)) (mqp vals cn qi qo qs f0 s0 Tm (npF Nw ni (mgF Tm f0 s0 (gsh (An f0 &&& An s0) (min f0 s0)))) (q + 1)) Kw Kw cd ++ ([])) (by rw [mqp_s]; unfold mqstep; rw [if_neg (fun x => qst_o c_13 x.1)]) ?_
            exact ih91 (q + 1) (by omega) (by omega)
          ·
            refine v_aload_n C dX6_merges_130 rfl 0 rfl ?_
            refine v_iload C dX6_merges_131 3 rfl ?_
            refine v_iload_n C dX6_merges_133 rfl 2 rfl ?_
            refine v_invVI C (As := [.int (iI ((q : Nat) : Int)), .int (iI ((s0 : Nat) : Int))]) (q0 := 0) (ci := 6) (kX6_isOpenIn l g (mm := mm) (b1 := b1) (b2 := b2) (b3 := b3) (b4 := b4) (b5 := b5) (b6 := b6) (b7 := b7) (b8 := b8) (b9 := b9) (b10 := b10) (b11 := b11) (b12 := b12) (b13 := b13) (b14 := b14) (b15 := b15) (b16 := b16) (b17 := b17) (kinds := kinds) (tgs := tgs) (first := first) (second := second) (vals := vals) (qs := qs) (hds := hds) (An := An) (qi := qi) (qo := qo) (Tm := Tm) (Nw := mqp vals cn qi qo qs f0 s0 Tm (npF Nw ni (mgF Tm f0 s0 (gsh (An f0 &&& An s0) (min f0 s0)))) q) (Kw := Kw) (ni := ni) (bc := bc) (cm := cm) (cn := cn) (qc := qc) (cd := cd) (ris := ris) (q0 := q) (c0 := s0) hI (by omega) (by omega)) (cwV 2 C.2.2.2.2.1 gX6_merges_X6_isOpenIn rfl rfl rfl (by decide +kernel) ⟨Nat.le_of_ble_eq_true rfl, Nat.le_of_ble_eq_true rfl⟩) [wMM g mm b1 b2 b3 b4 b5 b6 b7 b8 b9 b10 b11 b12 b13 b14 b15 b16 b17 kinds ni cm first second An An Tm Tm bc hds tgs qc qi qo qs cn vals (mqp vals cn qi qo qs f0 s0 Tm (npF Nw ni (mgF Tm f0 s0 (gsh (An f0 &&& An s0) (min f0 s0)))) q) (mqp vals cn qi qo qs f0 s0 Tm (npF Nw ni (mgF Tm f0 s0 (gsh (An f0 &&& An s0) (min f0 s0)))) q) Kw Kw cd] [0] [] [] (fun _ => [wMM g mm b1 b2 b3 b4 b5 b6 b7 b8 b9 b10 b11 b12 b13 b14 b15 b16 b17 kinds ni cm first second An An Tm Tm bc hds tgs qc qi qo qs cn vals (mqp vals cn qi qo qs f0 s0 Tm (npF Nw ni (mgF Tm f0 s0 (gsh (An f0 &&& An s0) (min f0 s0)))) q) (mqp vals cn qi qo qs f0 s0 Tm (npF Nw ni (mgF Tm f0 s0 (gsh (An f0 &&& An s0) (min f0 s0)))) q) Kw Kw cd]) (fun _ => wMM g mm b1 b2 b3 b4 b5 b6 b7 b8 b9 b10 b11 b12 b13 b14 b15 b16 b17 kinds ni cm first second An An Tm Tm bc hds tgs qc qi qo qs cn vals (mqp vals cn qi qo qs f0 s0 Tm (npF Nw ni (mgF Tm f0 s0 (gsh (An f0 &&& An s0) (min f0 s0)))) q) (mqp vals cn qi qo qs f0 s0 Tm (npF Nw ni (mgF Tm f0 s0 (gsh (An f0 &&& An s0) (min f0 s0)))) q) Kw Kw cd ++ ([])) rfl rfl rfl (fun _ => rfl) (fun _ => rfl) (fun _ => rfl) (fun _ => rfl) rfl rfl rfl rfl rfl (Nat.le_of_ble_eq_true rfl) dX6_merges_134 ⟨by decide, by decide⟩ (fun r_15 _ h_14 => ?_)
            subst h_14
            refine v_ifz_ne C 144 dX6_merges_137 (by decide) (fun c_16 => ?_) (fun c_16 => ?_)
            ·
              refine v_iconst C (z := 0) dX6_merges_144 ?_
              refine v_istore C [(5, .int (iI (0))), (0, .ref (mm)), (1, .int (iI ((f0 : Nat) : Int))), (2, .int (iI ((s0 : Nat) : Int))), (4, .int (iI ((q : Nat) : Int)))] dX6_merges_145 (by decide) rfl ?_
              refine v_aload_n C dX6_merges_147 rfl 1 rfl ?_
              refine v_get C 0 (kf := 13) rfl rfl (by decide) inX6_merges_6 lkX6_merges_46 rfl rfl dX6_merges_148 ?_
              refine v_iload C dX6_merges_151 4 rfl ?_
              refine v_ialdn C 10 (q) rfl rfl (by omega) (by decide) dX6_merges_153 ?_
              refine v_istore C [(6, .int (iI ((qi (q) : Nat) : Int))), (5, .int (iI (0))), (0, .ref (mm)), (1, .int (iI ((f0 : Nat) : Int))), (2, .int (iI ((s0 : Nat) : Int))), (4, .int (iI ((q : Nat) : Int)))] dX6_merges_154 (by decide) rfl ?_
              refine v_aload_n C dX6_merges_156 rfl 2 rfl ?_
              refine v_get C 0 (kf := 14) rfl rfl (by decide) inX6_merges_6 lkX6_merges_49 rfl rfl dX6_merges_157 ?_
              refine v_iload C dX6_merges_160 5 rfl ?_
              refine v_ialdn C 11 (q) rfl rfl (by omega) (by decide) dX6_merges_162 ?_
              refine v_istore C [(7, .int (iI ((qo (q) : Nat) : Int))), (6, .int (iI ((qi (q) : Nat) : Int))), (5, .int (iI (0))), (0, .ref (mm)), (1, .int (iI ((f0 : Nat) : Int))), (2, .int (iI ((s0 : Nat) : Int))), (4, .int (iI ((q : Nat) : Int)))] dX6_merges_163 (by decide) rfl ?_
              refine v_iload C dX6_merges_165 2 rfl ?_
              refine v_if_eq C 226 dX6_merges_167 (by decide) (b31_lit _ rfl) (fun _ => ?_) (fun h => absurd h (by decide))
              refine v_iinc C [(4, .int (iI (((q : Nat) : Int) + 1))), (7, .int (iI ((qo (q) : Nat) : Int))), (6, .int (iI ((qi (q) : Nat) : Int))), (5, .int (iI (0))), (0, .ref (mm)), (1, .int (iI ((f0 : Nat) : Int))), (2, .int (iI ((s0 : Nat) : Int)))] dX6_merges_226 6 rfl (by decide) rfl ?_
              rw [show ((q : Nat) : Int) + 1 = ((q + 1 : Nat) : Int) from rfl]
              refine v_goto C 91 dX6_merges_229 (by decide) ?_
              refine v_lv (lv' := [(0, .ref (mm)), (1, .int (iI ((f0 : Nat) : Int))), (2, .int (iI ((s0 : Nat) : Int))), (4, .int (iI ((q + 1 : Nat) : Int)))]) [4, 5, 6, 0] rfl ?_
              refine v_ws (ws' := wMM g mm b1 b2 b3 b4 b5 b6 b7 b8 b9 b10 b11 b12 b13 b14 b15 b16 b17 kinds ni cm first second An An Tm Tm bc hds tgs qc qi qo qs cn vals (mqp vals cn qi qo qs f0 s0 Tm (npF Nw ni (mgF Tm f0 s0 (gsh (An f0 &&& An s0) (min f0 s0)))) (q + 1)) (mqp vals cn qi qo qs f0 s0 Tm (npF Nw ni (mgF Tm f0 s0 (gsh (An f0 &&& An s0) (min f0 s0)))) (q + 1)) Kw Kw cd ++ ([])) (by rw [mqp_s]; unfold mqstep; rw [if_neg (fun x => qst_o c_16 x.2.1)]) ?_
              exact ih91 (q + 1) (by omega) (by omega)
            ·
              refine v_iconst C (z := 1) dX6_merges_140 ?_
              refine v_goto C 145 dX6_merges_141 (by decide) ?_
              refine v_istore C [(5, .int (iI (1))), (0, .ref (mm)), (1, .int (iI ((f0 : Nat) : Int))), (2, .int (iI ((s0 : Nat) : Int))), (4, .int (iI ((q : Nat) : Int)))] dX6_merges_145 (by decide) rfl ?_
              refine v_aload_n C dX6_merges_147 rfl 1 rfl ?_
              refine v_get C 0 (kf := 13) rfl rfl (by decide) inX6_merges_6 lkX6_merges_46 rfl rfl dX6_merges_148 ?_
              refine v_iload C dX6_merges_151 4 rfl ?_
              refine v_ialdn C 10 (q) rfl rfl (by omega) (by decide) dX6_merges_153 ?_
              refine v_istore C [(6, .int (iI ((qi (q) : Nat) : Int))), (5, .int (iI (1))), (0, .ref (mm)), (1, .int (iI ((f0 : Nat) : Int))), (2, .int (iI ((s0 : Nat) : Int))), (4, .int (iI ((q : Nat) : Int)))] dX6_merges_154 (by decide) rfl ?_
              refine v_aload_n C dX6_merges_156 rfl 2 rfl ?_
              refine v_get C 0 (kf := 14) rfl rfl (by decide) inX6_merges_6 lkX6_merges_49 rfl rfl dX6_merges_157 ?_
              refine v_iload C dX6_merges_160 5 rfl ?_
              refine v_ialdn C 11 (q) rfl rfl (by omega) (by decide) dX6_merges_162 ?_
              refine v_istore C [(7, .int (iI ((qo (q) : Nat) : Int))), (6, .int (iI ((qi (q) : Nat) : Int))), (5, .int (iI (1))), (0, .ref (mm)), (1, .int (iI ((f0 : Nat) : Int))), (2, .int (iI ((s0 : Nat) : Int))), (4, .int (iI ((q : Nat) : Int)))] dX6_merges_163 (by decide) rfl ?_
              refine v_iload C dX6_merges_165 2 rfl ?_
              refine v_if_eq C 226 dX6_merges_167 (by decide) (b31_lit _ rfl) (fun h => absurd h (by decide)) (fun _ => ?_)
              refine v_aload_n C dX6_merges_170 rfl 3 rfl ?_
              refine v_iload C dX6_merges_171 6 rfl ?_
              refine v_aload_n C dX6_merges_173 rfl 3 rfl ?_
              refine v_get C 0 (kf := 18) rfl rfl (by decide) inX6_merges_6 lkX6_merges_61 rfl rfl dX6_merges_174 ?_
              refine v_iload C dX6_merges_177 1 rfl ?_
              refine v_lald C 14 (qi (q)) rfl rfl (by omega) (by decide) dX6_merges_179 ?_
              refine v_aload_n C dX6_merges_180 rfl 3 rfl ?_
              refine v_get C 0 (kf := 19) rfl rfl (by decide) inX6_merges_6 lkX6_merges_64 rfl rfl dX6_merges_181 ?_
              refine v_iload C dX6_merges_184 1 rfl ?_
              refine v_lald C 15 (qi (q)) rfl rfl (by omega) (by decide) dX6_merges_186 ?_
              refine v_aload_n C dX6_merges_187 rfl 3 rfl ?_
              refine v_get C 0 (kf := 18) rfl rfl (by decide) inX6_merges_6 lkX6_merges_61 rfl rfl dX6_merges_188 ?_
              refine v_iload C dX6_merges_191 0 rfl ?_
              refine v_lald C 14 (qo (q)) rfl rfl (by omega) (by decide) dX6_merges_193 ?_
              refine v_aload_n C dX6_merges_194 rfl 3 rfl ?_
              refine v_get C 0 (kf := 19) rfl rfl (by decide) inX6_merges_6 lkX6_merges_64 rfl rfl dX6_merges_195 ?_
              refine v_iload C dX6_merges_198 0 rfl ?_
              refine v_lald C 15 (qo (q)) rfl rfl (by omega) (by decide) dX6_merges_200 ?_
              refine v_invVI C (As := [.int (iI ((q : Nat) : Int)), .long (loM ((mqp vals cn qi qo qs f0 s0 Tm (npF Nw ni (mgF Tm f0 s0 (gsh (An f0 &&& An s0) (min f0 s0)))) q) (qi (q)))), .long (hiM ((mqp vals cn qi qo qs f0 s0 Tm (npF Nw ni (mgF Tm f0 s0 (gsh (An f0 &&& An s0) (min f0 s0)))) q) (qi (q)))), .long (loM ((mqp vals cn qi qo qs f0 s0 Tm (npF Nw ni (mgF Tm f0 s0 (gsh (An f0 &&& An s0) (min f0 s0)))) q) (qo (q)))), .long (hiM ((mqp vals cn qi qo qs f0 s0 Tm (npF Nw ni (mgF Tm f0 s0 (gsh (An f0 &&& An s0) (min f0 s0)))) q) (qo (q))))]) (q0 := 0) (ci := 6) (kX6_isWrong l g (mm := mm) (b1 := b1) (b2 := b2) (b3 := b3) (b4 := b4) (b5 := b5) (b6 := b6) (b7 := b7) (b8 := b8) (b9 := b9) (b10 := b10) (b11 := b11) (b12 := b12) (b13 := b13) (b14 := b14) (b15 := b15) (b16 := b16) (b17 := b17) (kinds := kinds) (tgs := tgs) (first := first) (second := second) (vals := vals) (qs := qs) (hds := hds) (An := An) (qi := qi) (qo := qo) (Tm := Tm) (Nw := mqp vals cn qi qo qs f0 s0 Tm (npF Nw ni (mgF Tm f0 s0 (gsh (An f0 &&& An s0) (min f0 s0)))) q) (Kw := Kw) (ni := ni) (bc := bc) (cm := cm) (cn := cn) (qc := qc) (cd := cd) (ris := ris) (q0 := q) (Sa := (mqp vals cn qi qo qs f0 s0 Tm (npF Nw ni (mgF Tm f0 s0 (gsh (An f0 &&& An s0) (min f0 s0)))) q) (qi (q))) (Sb := (mqp vals cn qi qo qs f0 s0 Tm (npF Nw ni (mgF Tm f0 s0 (gsh (An f0 &&& An s0) (min f0 s0)))) q) (qo (q))) (by omega) hpal hqb (hN9 _ hq1).1 (hN9 _ hq1).2 (hN9 _ hq2).1 (hN9 _ hq2).2) (cwV 5 C.2.2.2.2.1 gX6_merges_X6_isWrong rfl rfl rfl (by decide +kernel) ⟨Nat.le_of_ble_eq_true rfl, Nat.le_of_ble_eq_true rfl⟩) [wMM g mm b1 b2 b3 b4 b5 b6 b7 b8 b9 b10 b11 b12 b13 b14 b15 b16 b17 kinds ni cm first second An An Tm Tm bc hds tgs qc qi qo qs cn vals (mqp vals cn qi qo qs f0 s0 Tm (npF Nw ni (mgF Tm f0 s0 (gsh (An f0 &&& An s0) (min f0 s0)))) q) (mqp vals cn qi qo qs f0 s0 Tm (npF Nw ni (mgF Tm f0 s0 (gsh (An f0 &&& An s0) (min f0 s0)))) q) Kw Kw cd] [0] [] [] (fun _ => [wMM g mm b1 b2 b3 b4 b5 b6 b7 b8 b9 b10 b11 b12 b13 b14 b15 b16 b17 kinds ni cm first second An An Tm Tm bc hds tgs qc qi qo qs cn vals (mqp vals cn qi qo qs f0 s0 Tm (npF Nw ni (mgF Tm f0 s0 (gsh (An f0 &&& An s0) (min f0 s0)))) q) (mqp vals cn qi qo qs f0 s0 Tm (npF Nw ni (mgF Tm f0 s0 (gsh (An f0 &&& An s0) (min f0 s0)))) q) Kw Kw cd]) (fun _ => wMM g mm b1 b2 b3 b4 b5 b6 b7 b8 b9 b10 b11 b12 b13 b14 b15 b16 b17 kinds ni cm first second An An Tm Tm bc hds tgs qc qi qo qs cn vals (mqp vals cn qi qo qs f0 s0 Tm (npF Nw ni (mgF Tm f0 s0 (gsh (An f0 &&& An s0) (min f0 s0)))) q) (mqp vals cn qi qo qs f0 s0 Tm (npF Nw ni (mgF Tm f0 s0 (gsh (An f0 &&& An s0) (min f0 s0)))) q) Kw Kw cd ++ ([])) rfl rfl rfl (fun _ => rfl) (fun _ => rfl) (fun _ => rfl) (fun _ => rfl) rfl rfl rfl rfl rfl (Nat.le_of_ble_eq_true rfl) dX6_merges_201 ⟨by decide, by decide⟩ (fun r_18 _ h_17 => ?_)
              subst h_17
              refine v_ifz_ne C 210 dX6_merges_204 (by decide) (fun c_19 => ?_) (fun c_19 => ?_)
              ·
                refine v_aload_n C dX6_merges_210 rfl 3 rfl ?_
                refine v_iload_n C dX6_merges_211 rfl 4 rfl ?_
                refine v_iload_n C dX6_merges_212 rfl 5 rfl ?_
                refine v_iload C dX6_merges_213 1 rfl ?_
                refine v_invVV C (As := [.int (iI ((f0 : Nat) : Int)), .int (iI ((s0 : Nat) : Int)), .int (iI ((qi (q) : Nat) : Int))]) (q0 := 0) (ci := 6) (kX6_unites l g (mm := mm) (b1 := b1) (b2 := b2) (b3 := b3) (b4 := b4) (b5 := b5) (b6 := b6) (b7 := b7) (b8 := b8) (b9 := b9) (b10 := b10) (b11 := b11) (b12 := b12) (b13 := b13) (b14 := b14) (b15 := b15) (b16 := b16) (b17 := b17) (kinds := kinds) (tgs := tgs) (first := first) (second := second) (vals := vals) (qs := qs) (hds := hds) (An := An) (qi := qi) (qo := qo) (Tm := Tm) (Nw := mqp vals cn qi qo qs f0 s0 Tm (npF Nw ni (mgF Tm f0 s0 (gsh (An f0 &&& An s0) (min f0 s0)))) q) (Kw := Kw) (ni := ni) (bc := bc) (cm := cm) (cn := cn) (qc := qc) (cd := cd) (ris := ris) (c0 := f0) (d0 := s0) (i0 := qi (q)) (by omega) (by omega) (by omega)) (cwV 3 C.2.2.2.2.1 gX6_merges_X6_unites rfl rfl rfl (by decide +kernel) ⟨Nat.le_of_ble_eq_true rfl, Nat.le_of_ble_eq_true rfl⟩) [wMM g mm b1 b2 b3 b4 b5 b6 b7 b8 b9 b10 b11 b12 b13 b14 b15 b16 b17 kinds ni cm first second An An Tm Tm bc hds tgs qc qi qo qs cn vals (mqp vals cn qi qo qs f0 s0 Tm (npF Nw ni (mgF Tm f0 s0 (gsh (An f0 &&& An s0) (min f0 s0)))) q) (mqp vals cn qi qo qs f0 s0 Tm (npF Nw ni (mgF Tm f0 s0 (gsh (An f0 &&& An s0) (min f0 s0)))) q) Kw Kw cd] [0] [] [] (fun _ => [wMM g mm b1 b2 b3 b4 b5 b6 b7 b8 b9 b10 b11 b12 b13 b14 b15 b16 b17 kinds ni cm first second An An Tm Tm bc hds tgs qc qi qo qs cn vals (updN (mqp vals cn qi qo qs f0 s0 Tm (npF Nw ni (mgF Tm f0 s0 (gsh (An f0 &&& An s0) (min f0 s0)))) q) (qi (q)) (Tm (12 * f0 + (qi (q))) ||| Tm (12 * s0 + (qi (q))))) (updN (mqp vals cn qi qo qs f0 s0 Tm (npF Nw ni (mgF Tm f0 s0 (gsh (An f0 &&& An s0) (min f0 s0)))) q) (qi (q)) (Tm (12 * f0 + (qi (q))) ||| Tm (12 * s0 + (qi (q))))) Kw Kw cd]) (fun _ => wMM g mm b1 b2 b3 b4 b5 b6 b7 b8 b9 b10 b11 b12 b13 b14 b15 b16 b17 kinds ni cm first second An An Tm Tm bc hds tgs qc qi qo qs cn vals (updN (mqp vals cn qi qo qs f0 s0 Tm (npF Nw ni (mgF Tm f0 s0 (gsh (An f0 &&& An s0) (min f0 s0)))) q) (qi (q)) (Tm (12 * f0 + (qi (q))) ||| Tm (12 * s0 + (qi (q))))) (updN (mqp vals cn qi qo qs f0 s0 Tm (npF Nw ni (mgF Tm f0 s0 (gsh (An f0 &&& An s0) (min f0 s0)))) q) (qi (q)) (Tm (12 * f0 + (qi (q))) ||| Tm (12 * s0 + (qi (q))))) Kw Kw cd ++ ([])) rfl rfl rfl (fun _ => rfl) (fun _ => rfl) (fun _ => rfl) (fun _ => rfl) rfl rfl rfl rfl rfl (Nat.le_of_ble_eq_true rfl) dX6_merges_215 ⟨by decide, by decide⟩ (fun _ h_20 => ?_)
                refine v_aload_n C dX6_merges_218 rfl 3 rfl ?_
                refine v_iload_n C dX6_merges_219 rfl 4 rfl ?_
                refine v_iload_n C dX6_merges_220 rfl 5 rfl ?_
                refine v_iload C dX6_merges_221 0 rfl ?_
                refine v_invVV C (As := [.int (iI ((f0 : Nat) : Int)), .int (iI ((s0 : Nat) : Int)), .int (iI ((qo (q) : Nat) : Int))]) (q0 := 0) (ci := 6) (kX6_unites l g (mm := mm) (b1 := b1) (b2 := b2) (b3 := b3) (b4 := b4) (b5 := b5) (b6 := b6) (b7 := b7) (b8 := b8) (b9 := b9) (b10 := b10) (b11 := b11) (b12 := b12) (b13 := b13) (b14 := b14) (b15 := b15) (b16 := b16) (b17 := b17) (kinds := kinds) (tgs := tgs) (first := first) (second := second) (vals := vals) (qs := qs) (hds := hds) (An := An) (qi := qi) (qo := qo) (Tm := Tm) (Nw := updN (mqp vals cn qi qo qs f0 s0 Tm (npF Nw ni (mgF Tm f0 s0 (gsh (An f0 &&& An s0) (min f0 s0)))) q) (qi (q)) (Tm (12 * f0 + (qi (q))) ||| Tm (12 * s0 + (qi (q))))) (Kw := Kw) (ni := ni) (bc := bc) (cm := cm) (cn := cn) (qc := qc) (cd := cd) (ris := ris) (c0 := f0) (d0 := s0) (i0 := qo (q)) (by omega) (by omega) (by omega)) (cwV 3 C.2.2.2.2.1 gX6_merges_X6_unites rfl rfl rfl (by decide +kernel) ⟨Nat.le_of_ble_eq_true rfl, Nat.le_of_ble_eq_true rfl⟩) [wMM g mm b1 b2 b3 b4 b5 b6 b7 b8 b9 b10 b11 b12 b13 b14 b15 b16 b17 kinds ni cm first second An An Tm Tm bc hds tgs qc qi qo qs cn vals (updN (mqp vals cn qi qo qs f0 s0 Tm (npF Nw ni (mgF Tm f0 s0 (gsh (An f0 &&& An s0) (min f0 s0)))) q) (qi (q)) (Tm (12 * f0 + (qi (q))) ||| Tm (12 * s0 + (qi (q))))) (updN (mqp vals cn qi qo qs f0 s0 Tm (npF Nw ni (mgF Tm f0 s0 (gsh (An f0 &&& An s0) (min f0 s0)))) q) (qi (q)) (Tm (12 * f0 + (qi (q))) ||| Tm (12 * s0 + (qi (q))))) Kw Kw cd] [0] [] [] (fun _ => [wMM g mm b1 b2 b3 b4 b5 b6 b7 b8 b9 b10 b11 b12 b13 b14 b15 b16 b17 kinds ni cm first second An An Tm Tm bc hds tgs qc qi qo qs cn vals (updN (updN (mqp vals cn qi qo qs f0 s0 Tm (npF Nw ni (mgF Tm f0 s0 (gsh (An f0 &&& An s0) (min f0 s0)))) q) (qi (q)) (Tm (12 * f0 + (qi (q))) ||| Tm (12 * s0 + (qi (q))))) (qo (q)) (Tm (12 * f0 + (qo (q))) ||| Tm (12 * s0 + (qo (q))))) (updN (updN (mqp vals cn qi qo qs f0 s0 Tm (npF Nw ni (mgF Tm f0 s0 (gsh (An f0 &&& An s0) (min f0 s0)))) q) (qi (q)) (Tm (12 * f0 + (qi (q))) ||| Tm (12 * s0 + (qi (q))))) (qo (q)) (Tm (12 * f0 + (qo (q))) ||| Tm (12 * s0 + (qo (q))))) Kw Kw cd]) (fun _ => wMM g mm b1 b2 b3 b4 b5 b6 b7 b8 b9 b10 b11 b12 b13 b14 b15 b16 b17 kinds ni cm first second An An Tm Tm bc hds tgs qc qi qo qs cn vals (updN (updN (mqp vals cn qi qo qs f0 s0 Tm (npF Nw ni (mgF Tm f0 s0 (gsh (An f0 &&& An s0) (min f0 s0)))) q) (qi (q)) (Tm (12 * f0 + (qi (q))) ||| Tm (12 * s0 + (qi (q))))) (qo (q)) (Tm (12 * f0 + (qo (q))) ||| Tm (12 * s0 + (qo (q))))) (updN (updN (mqp vals cn qi qo qs f0 s0 Tm (npF Nw ni (mgF Tm f0 s0 (gsh (An f0 &&& An s0) (min f0 s0)))) q) (qi (q)) (Tm (12 * f0 + (qi (q))) ||| Tm (12 * s0 + (qi (q))))) (qo (q)) (Tm (12 * f0 + (qo (q))) ||| Tm (12 * s0 + (qo (q))))) Kw Kw cd ++ ([])) rfl rfl rfl (fun _ => rfl) (fun _ => rfl) (fun _ => rfl) (fun _ => rfl) rfl rfl rfl rfl rfl (Nat.le_of_ble_eq_true rfl) dX6_merges_223 ⟨by decide, by decide⟩ (fun _ h_22 => ?_)
                refine v_iinc C [(4, .int (iI (((q : Nat) : Int) + 1))), (7, .int (iI ((qo (q) : Nat) : Int))), (6, .int (iI ((qi (q) : Nat) : Int))), (5, .int (iI (1))), (0, .ref (mm)), (1, .int (iI ((f0 : Nat) : Int))), (2, .int (iI ((s0 : Nat) : Int)))] dX6_merges_226 6 rfl (by decide) rfl ?_
                rw [show ((q : Nat) : Int) + 1 = ((q + 1 : Nat) : Int) from rfl]
                refine v_goto C 91 dX6_merges_229 (by decide) ?_
                refine v_lv (lv' := [(0, .ref (mm)), (1, .int (iI ((f0 : Nat) : Int))), (2, .int (iI ((s0 : Nat) : Int))), (4, .int (iI ((q + 1 : Nat) : Int)))]) [4, 5, 6, 0] rfl ?_
                refine v_ws (ws' := wMM g mm b1 b2 b3 b4 b5 b6 b7 b8 b9 b10 b11 b12 b13 b14 b15 b16 b17 kinds ni cm first second An An Tm Tm bc hds tgs qc qi qo qs cn vals (mqp vals cn qi qo qs f0 s0 Tm (npF Nw ni (mgF Tm f0 s0 (gsh (An f0 &&& An s0) (min f0 s0)))) (q + 1)) (mqp vals cn qi qo qs f0 s0 Tm (npF Nw ni (mgF Tm f0 s0 (gsh (An f0 &&& An s0) (min f0 s0)))) (q + 1)) Kw Kw cd ++ ([])) (by rw [mqp_s]; unfold mqstep; rw [if_pos ⟨qst_0 c_7 c_13, qst_0 c_10 c_16, (of_decide_eq_true c_19)⟩]) ?_
                exact ih91 (q + 1) (by omega) (by omega)
              ·
                refine v_goto C 226 dX6_merges_207 (by decide) ?_
                refine v_iinc C [(4, .int (iI (((q : Nat) : Int) + 1))), (7, .int (iI ((qo (q) : Nat) : Int))), (6, .int (iI ((qi (q) : Nat) : Int))), (5, .int (iI (1))), (0, .ref (mm)), (1, .int (iI ((f0 : Nat) : Int))), (2, .int (iI ((s0 : Nat) : Int)))] dX6_merges_226 6 rfl (by decide) rfl ?_
                rw [show ((q : Nat) : Int) + 1 = ((q + 1 : Nat) : Int) from rfl]
                refine v_goto C 91 dX6_merges_229 (by decide) ?_
                refine v_lv (lv' := [(0, .ref (mm)), (1, .int (iI ((f0 : Nat) : Int))), (2, .int (iI ((s0 : Nat) : Int))), (4, .int (iI ((q + 1 : Nat) : Int)))]) [4, 5, 6, 0] rfl ?_
                refine v_ws (ws' := wMM g mm b1 b2 b3 b4 b5 b6 b7 b8 b9 b10 b11 b12 b13 b14 b15 b16 b17 kinds ni cm first second An An Tm Tm bc hds tgs qc qi qo qs cn vals (mqp vals cn qi qo qs f0 s0 Tm (npF Nw ni (mgF Tm f0 s0 (gsh (An f0 &&& An s0) (min f0 s0)))) (q + 1)) (mqp vals cn qi qo qs f0 s0 Tm (npF Nw ni (mgF Tm f0 s0 (gsh (An f0 &&& An s0) (min f0 s0)))) (q + 1)) Kw Kw cd ++ ([])) (by rw [mqp_s]; unfold mqstep; rw [if_neg (fun x => absurd x.2.2 (of_decide_eq_false c_19))]) ?_
                exact ih91 (q + 1) (by omega) (by omega)
  ·
    refine v_aload_n C dX6_merges_19 rfl 0 rfl ?_
    refine v_iload_n C dX6_merges_20 rfl 1 rfl ?_
    refine v_iload_n C dX6_merges_21 rfl 2 rfl ?_
    refine v_iload C dX6_merges_22 4 rfl ?_
    refine v_invVI C (As := [.int (iI ((f0 : Nat) : Int)), .int (iI ((s0 : Nat) : Int)), .int (iI ((q : Nat) : Int))]) (q0 := 0) (ci := 6) (kX6_isSame l g (mm := mm) (b1 := b1) (b2 := b2) (b3 := b3) (b4 := b4) (b5 := b5) (b6 := b6) (b7 := b7) (b8 := b8) (b9 := b9) (b10 := b10) (b11 := b11) (b12 := b12) (b13 := b13) (b14 := b14) (b15 := b15) (b16 := b16) (b17 := b17) (kinds := kinds) (tgs := tgs) (first := first) (second := second) (vals := vals) (qs := qs) (hds := hds) (An := An) (qi := qi) (qo := qo) (Tm := Tm) (Nw := npF Nw q (mgF Tm f0 s0 (gsh (An f0 &&& An s0) (min f0 s0)))) (Kw := Kw) (ni := ni) (bc := bc) (cm := cm) (cn := cn) (qc := qc) (cd := cd) (ris := ris) (c0 := f0) (d0 := s0) (i0 := q) (by omega) (by omega) (by omega) hTm) (cwV 3 C.2.2.2.2.1 gX6_merges_X6_isSame rfl rfl rfl (by decide +kernel) ⟨Nat.le_of_ble_eq_true rfl, Nat.le_of_ble_eq_true rfl⟩) [wMM g mm b1 b2 b3 b4 b5 b6 b7 b8 b9 b10 b11 b12 b13 b14 b15 b16 b17 kinds ni cm first second An An Tm Tm bc hds tgs qc qi qo qs cn vals (npF Nw q (mgF Tm f0 s0 (gsh (An f0 &&& An s0) (min f0 s0)))) (npF Nw q (mgF Tm f0 s0 (gsh (An f0 &&& An s0) (min f0 s0)))) Kw Kw cd] [0] [] [] (fun _ => [wMM g mm b1 b2 b3 b4 b5 b6 b7 b8 b9 b10 b11 b12 b13 b14 b15 b16 b17 kinds ni cm first second An An Tm Tm bc hds tgs qc qi qo qs cn vals (npF Nw q (mgF Tm f0 s0 (gsh (An f0 &&& An s0) (min f0 s0)))) (npF Nw q (mgF Tm f0 s0 (gsh (An f0 &&& An s0) (min f0 s0)))) Kw Kw cd]) (fun _ => wMM g mm b1 b2 b3 b4 b5 b6 b7 b8 b9 b10 b11 b12 b13 b14 b15 b16 b17 kinds ni cm first second An An Tm Tm bc hds tgs qc qi qo qs cn vals (npF Nw q (mgF Tm f0 s0 (gsh (An f0 &&& An s0) (min f0 s0)))) (npF Nw q (mgF Tm f0 s0 (gsh (An f0 &&& An s0) (min f0 s0)))) Kw Kw cd ++ ([])) rfl rfl rfl (fun _ => rfl) (fun _ => rfl) (fun _ => rfl) (fun _ => rfl) rfl rfl rfl rfl rfl (Nat.le_of_ble_eq_true rfl) dX6_merges_24 ⟨by decide, by decide⟩ (fun r_25 _ h_24 => ?_)
    subst h_24
    refine v_ifz_ne C 41 dX6_merges_27 (by decide) (fun c_26 => ?_) (fun c_26 => ?_)
    ·
      refine v_aload_n C dX6_merges_41 rfl 0 rfl ?_
      refine v_iload_n C dX6_merges_42 rfl 1 rfl ?_
      refine v_iload_n C dX6_merges_43 rfl 1 rfl ?_
      refine v_iload C dX6_merges_44 4 rfl ?_
      refine v_invVV C (As := [.int (iI ((f0 : Nat) : Int)), .int (iI ((f0 : Nat) : Int)), .int (iI ((q : Nat) : Int))]) (q0 := 0) (ci := 6) (kX6_unites l g (mm := mm) (b1 := b1) (b2 := b2) (b3 := b3) (b4 := b4) (b5 := b5) (b6 := b6) (b7 := b7) (b8 := b8) (b9 := b9) (b10 := b10) (b11 := b11) (b12 := b12) (b13 := b13) (b14 := b14) (b15 := b15) (b16 := b16) (b17 := b17) (kinds := kinds) (tgs := tgs) (first := first) (second := second) (vals := vals) (qs := qs) (hds := hds) (An := An) (qi := qi) (qo := qo) (Tm := Tm) (Nw := npF Nw q (mgF Tm f0 s0 (gsh (An f0 &&& An s0) (min f0 s0)))) (Kw := Kw) (ni := ni) (bc := bc) (cm := cm) (cn := cn) (qc := qc) (cd := cd) (ris := ris) (c0 := f0) (d0 := f0) (i0 := q) (by omega) (by omega) (by omega)) (cwV 3 C.2.2.2.2.1 gX6_merges_X6_unites rfl rfl rfl (by decide +kernel) ⟨Nat.le_of_ble_eq_true rfl, Nat.le_of_ble_eq_true rfl⟩) [wMM g mm b1 b2 b3 b4 b5 b6 b7 b8 b9 b10 b11 b12 b13 b14 b15 b16 b17 kinds ni cm first second An An Tm Tm bc hds tgs qc qi qo qs cn vals (npF Nw q (mgF Tm f0 s0 (gsh (An f0 &&& An s0) (min f0 s0)))) (npF Nw q (mgF Tm f0 s0 (gsh (An f0 &&& An s0) (min f0 s0)))) Kw Kw cd] [0] [] [] (fun _ => [wMM g mm b1 b2 b3 b4 b5 b6 b7 b8 b9 b10 b11 b12 b13 b14 b15 b16 b17 kinds ni cm first second An An Tm Tm bc hds tgs qc qi qo qs cn vals (updN (npF Nw q (mgF Tm f0 s0 (gsh (An f0 &&& An s0) (min f0 s0)))) (q) (Tm (12 * f0 + q) ||| Tm (12 * f0 + q))) (updN (npF Nw q (mgF Tm f0 s0 (gsh (An f0 &&& An s0) (min f0 s0)))) (q) (Tm (12 * f0 + q) ||| Tm (12 * f0 + q))) Kw Kw cd]) (fun _ => wMM g mm b1 b2 b3 b4 b5 b6 b7 b8 b9 b10 b11 b12 b13 b14 b15 b16 b17 kinds ni cm first second An An Tm Tm bc hds tgs qc qi qo qs cn vals (updN (npF Nw q (mgF Tm f0 s0 (gsh (An f0 &&& An s0) (min f0 s0)))) (q) (Tm (12 * f0 + q) ||| Tm (12 * f0 + q))) (updN (npF Nw q (mgF Tm f0 s0 (gsh (An f0 &&& An s0) (min f0 s0)))) (q) (Tm (12 * f0 + q) ||| Tm (12 * f0 + q))) Kw Kw cd ++ ([])) rfl rfl rfl (fun _ => rfl) (fun _ => rfl) (fun _ => rfl) (fun _ => rfl) rfl rfl rfl rfl rfl (Nat.le_of_ble_eq_true rfl) dX6_merges_46 ⟨by decide, by decide⟩ (fun _ h_27 => ?_)
      refine v_goto C 82 dX6_merges_49 (by decide) ?_
      refine v_iinc C [(4, .int (iI (((q : Nat) : Int) + 1))), (0, .ref (mm)), (1, .int (iI ((f0 : Nat) : Int))), (2, .int (iI ((s0 : Nat) : Int))), (3, .int (iI ((gsh (An f0 &&& An s0) (min f0 s0) : Nat) : Int)))] dX6_merges_82 4 rfl (by decide) rfl ?_
      rw [show ((q : Nat) : Int) + 1 = ((q + 1 : Nat) : Int) from rfl]
      refine v_goto C 10 dX6_merges_85 (by decide) ?_
      refine v_lv (lv' := [(0, .ref (mm)), (1, .int (iI ((f0 : Nat) : Int))), (2, .int (iI ((s0 : Nat) : Int))), (3, .int (iI ((gsh (An f0 &&& An s0) (min f0 s0) : Nat) : Int))), (4, .int (iI ((q + 1 : Nat) : Int)))]) [1, 2, 3, 4, 0] rfl ?_
      refine v_ws (ws' := wMM g mm b1 b2 b3 b4 b5 b6 b7 b8 b9 b10 b11 b12 b13 b14 b15 b16 b17 kinds ni cm first second An An Tm Tm bc hds tgs qc qi qo qs cn vals (npF Nw (q + 1) (mgF Tm f0 s0 (gsh (An f0 &&& An s0) (min f0 s0)))) (npF Nw (q + 1) (mgF Tm f0 s0 (gsh (An f0 &&& An s0) (min f0 s0)))) Kw Kw cd ++ ([])) (by rw [Nat.or_self, np_step (show mgF Tm f0 s0 (gsh (An f0 &&& An s0) (min f0 s0)) q = _ from mg_a (Or.inl (of_decide_eq_true c_26)))]) ?_
      exact ih10 (q + 1) (by omega) (by omega)
    ·
      refine v_aload_n C dX6_merges_30 rfl 0 rfl ?_
      refine v_iload_n C dX6_merges_31 rfl 2 rfl ?_
      refine v_iload_n C dX6_merges_32 rfl 3 rfl ?_
      refine v_iload C dX6_merges_33 4 rfl ?_
      refine v_invVI C (As := [.int (iI ((s0 : Nat) : Int)), .int (iI ((gsh (An f0 &&& An s0) (min f0 s0) : Nat) : Int)), .int (iI ((q : Nat) : Int))]) (q0 := 0) (ci := 6) (kX6_isSame l g (mm := mm) (b1 := b1) (b2 := b2) (b3 := b3) (b4 := b4) (b5 := b5) (b6 := b6) (b7 := b7) (b8 := b8) (b9 := b9) (b10 := b10) (b11 := b11) (b12 := b12) (b13 := b13) (b14 := b14) (b15 := b15) (b16 := b16) (b17 := b17) (kinds := kinds) (tgs := tgs) (first := first) (second := second) (vals := vals) (qs := qs) (hds := hds) (An := An) (qi := qi) (qo := qo) (Tm := Tm) (Nw := npF Nw q (mgF Tm f0 s0 (gsh (An f0 &&& An s0) (min f0 s0)))) (Kw := Kw) (ni := ni) (bc := bc) (cm := cm) (cn := cn) (qc := qc) (cd := cd) (ris := ris) (c0 := s0) (d0 := gsh (An f0 &&& An s0) (min f0 s0)) (i0 := q) (by omega) (by omega) (by omega) hTm) (cwV 3 C.2.2.2.2.1 gX6_merges_X6_isSame rfl rfl rfl (by decide +kernel) ⟨Nat.le_of_ble_eq_true rfl, Nat.le_of_ble_eq_true rfl⟩) [wMM g mm b1 b2 b3 b4 b5 b6 b7 b8 b9 b10 b11 b12 b13 b14 b15 b16 b17 kinds ni cm first second An An Tm Tm bc hds tgs qc qi qo qs cn vals (npF Nw q (mgF Tm f0 s0 (gsh (An f0 &&& An s0) (min f0 s0)))) (npF Nw q (mgF Tm f0 s0 (gsh (An f0 &&& An s0) (min f0 s0)))) Kw Kw cd] [0] [] [] (fun _ => [wMM g mm b1 b2 b3 b4 b5 b6 b7 b8 b9 b10 b11 b12 b13 b14 b15 b16 b17 kinds ni cm first second An An Tm Tm bc hds tgs qc qi qo qs cn vals (npF Nw q (mgF Tm f0 s0 (gsh (An f0 &&& An s0) (min f0 s0)))) (npF Nw q (mgF Tm f0 s0 (gsh (An f0 &&& An s0) (min f0 s0)))) Kw Kw cd]) (fun _ => wMM g mm b1 b2 b3 b4 b5 b6 b7 b8 b9 b10 b11 b12 b13 b14 b15 b16 b17 kinds ni cm first second An An Tm Tm bc hds tgs qc qi qo qs cn vals (npF Nw q (mgF Tm f0 s0 (gsh (An f0 &&& An s0) (min f0 s0)))) (npF Nw q (mgF Tm f0 s0 (gsh (An f0 &&& An s0) (min f0 s0)))) Kw Kw cd ++ ([])) rfl rfl rfl (fun _ => rfl) (fun _ => rfl) (fun _ => rfl) (fun _ => rfl) rfl rfl rfl rfl rfl (Nat.le_of_ble_eq_true rfl) dX6_merges_35 ⟨by decide, by decide⟩ (fun r_30 _ h_29 => ?_)
      subst h_29
      refine v_ifz_eq C 52 dX6_merges_38 (by decide) (fun c_31 => ?_) (fun c_31 => ?_)
      ·
        refine v_aload_n C dX6_merges_52 rfl 0 rfl ?_
        refine v_iload_n C dX6_merges_53 rfl 1 rfl ?_
        refine v_iload_n C dX6_merges_54 rfl 3 rfl ?_
        refine v_iload C dX6_merges_55 4 rfl ?_
        refine v_invVI C (As := [.int (iI ((f0 : Nat) : Int)), .int (iI ((gsh (An f0 &&& An s0) (min f0 s0) : Nat) : Int)), .int (iI ((q : Nat) : Int))]) (q0 := 0) (ci := 6) (kX6_isSame l g (mm := mm) (b1 := b1) (b2 := b2) (b3 := b3) (b4 := b4) (b5 := b5) (b6 := b6) (b7 := b7) (b8 := b8) (b9 := b9) (b10 := b10) (b11 := b11) (b12 := b12) (b13 := b13) (b14 := b14) (b15 := b15) (b16 := b16) (b17 := b17) (kinds := kinds) (tgs := tgs) (first := first) (second := second) (vals := vals) (qs := qs) (hds := hds) (An := An) (qi := qi) (qo := qo) (Tm := Tm) (Nw := npF Nw q (mgF Tm f0 s0 (gsh (An f0 &&& An s0) (min f0 s0)))) (Kw := Kw) (ni := ni) (bc := bc) (cm := cm) (cn := cn) (qc := qc) (cd := cd) (ris := ris) (c0 := f0) (d0 := gsh (An f0 &&& An s0) (min f0 s0)) (i0 := q) (by omega) (by omega) (by omega) hTm) (cwV 3 C.2.2.2.2.1 gX6_merges_X6_isSame rfl rfl rfl (by decide +kernel) ⟨Nat.le_of_ble_eq_true rfl, Nat.le_of_ble_eq_true rfl⟩) [wMM g mm b1 b2 b3 b4 b5 b6 b7 b8 b9 b10 b11 b12 b13 b14 b15 b16 b17 kinds ni cm first second An An Tm Tm bc hds tgs qc qi qo qs cn vals (npF Nw q (mgF Tm f0 s0 (gsh (An f0 &&& An s0) (min f0 s0)))) (npF Nw q (mgF Tm f0 s0 (gsh (An f0 &&& An s0) (min f0 s0)))) Kw Kw cd] [0] [] [] (fun _ => [wMM g mm b1 b2 b3 b4 b5 b6 b7 b8 b9 b10 b11 b12 b13 b14 b15 b16 b17 kinds ni cm first second An An Tm Tm bc hds tgs qc qi qo qs cn vals (npF Nw q (mgF Tm f0 s0 (gsh (An f0 &&& An s0) (min f0 s0)))) (npF Nw q (mgF Tm f0 s0 (gsh (An f0 &&& An s0) (min f0 s0)))) Kw Kw cd]) (fun _ => wMM g mm b1 b2 b3 b4 b5 b6 b7 b8 b9 b10 b11 b12 b13 b14 b15 b16 b17 kinds ni cm first second An An Tm Tm bc hds tgs qc qi qo qs cn vals (npF Nw q (mgF Tm f0 s0 (gsh (An f0 &&& An s0) (min f0 s0)))) (npF Nw q (mgF Tm f0 s0 (gsh (An f0 &&& An s0) (min f0 s0)))) Kw Kw cd ++ ([])) rfl rfl rfl (fun _ => rfl) (fun _ => rfl) (fun _ => rfl) (fun _ => rfl) rfl rfl rfl rfl rfl (Nat.le_of_ble_eq_true rfl) dX6_merges_57 ⟨by decide, by decide⟩ (fun r_33 _ h_32 => ?_)
        subst h_32
        refine v_ifz_eq C 74 dX6_merges_60 (by decide) (fun c_34 => ?_) (fun c_34 => ?_)
        ·
          refine v_aload_n C dX6_merges_74 rfl 0 rfl ?_
          refine v_iload_n C dX6_merges_75 rfl 1 rfl ?_
          refine v_iload_n C dX6_merges_76 rfl 2 rfl ?_
          refine v_iload C dX6_merges_77 4 rfl ?_
          refine v_invVV C (As := [.int (iI ((f0 : Nat) : Int)), .int (iI ((s0 : Nat) : Int)), .int (iI ((q : Nat) : Int))]) (q0 := 0) (ci := 6) (kX6_unites l g (mm := mm) (b1 := b1) (b2 := b2) (b3 := b3) (b4 := b4) (b5 := b5) (b6 := b6) (b7 := b7) (b8 := b8) (b9 := b9) (b10 := b10) (b11 := b11) (b12 := b12) (b13 := b13) (b14 := b14) (b15 := b15) (b16 := b16) (b17 := b17) (kinds := kinds) (tgs := tgs) (first := first) (second := second) (vals := vals) (qs := qs) (hds := hds) (An := An) (qi := qi) (qo := qo) (Tm := Tm) (Nw := npF Nw q (mgF Tm f0 s0 (gsh (An f0 &&& An s0) (min f0 s0)))) (Kw := Kw) (ni := ni) (bc := bc) (cm := cm) (cn := cn) (qc := qc) (cd := cd) (ris := ris) (c0 := f0) (d0 := s0) (i0 := q) (by omega) (by omega) (by omega)) (cwV 3 C.2.2.2.2.1 gX6_merges_X6_unites rfl rfl rfl (by decide +kernel) ⟨Nat.le_of_ble_eq_true rfl, Nat.le_of_ble_eq_true rfl⟩) [wMM g mm b1 b2 b3 b4 b5 b6 b7 b8 b9 b10 b11 b12 b13 b14 b15 b16 b17 kinds ni cm first second An An Tm Tm bc hds tgs qc qi qo qs cn vals (npF Nw q (mgF Tm f0 s0 (gsh (An f0 &&& An s0) (min f0 s0)))) (npF Nw q (mgF Tm f0 s0 (gsh (An f0 &&& An s0) (min f0 s0)))) Kw Kw cd] [0] [] [] (fun _ => [wMM g mm b1 b2 b3 b4 b5 b6 b7 b8 b9 b10 b11 b12 b13 b14 b15 b16 b17 kinds ni cm first second An An Tm Tm bc hds tgs qc qi qo qs cn vals (updN (npF Nw q (mgF Tm f0 s0 (gsh (An f0 &&& An s0) (min f0 s0)))) (q) (Tm (12 * f0 + q) ||| Tm (12 * s0 + q))) (updN (npF Nw q (mgF Tm f0 s0 (gsh (An f0 &&& An s0) (min f0 s0)))) (q) (Tm (12 * f0 + q) ||| Tm (12 * s0 + q))) Kw Kw cd]) (fun _ => wMM g mm b1 b2 b3 b4 b5 b6 b7 b8 b9 b10 b11 b12 b13 b14 b15 b16 b17 kinds ni cm first second An An Tm Tm bc hds tgs qc qi qo qs cn vals (updN (npF Nw q (mgF Tm f0 s0 (gsh (An f0 &&& An s0) (min f0 s0)))) (q) (Tm (12 * f0 + q) ||| Tm (12 * s0 + q))) (updN (npF Nw q (mgF Tm f0 s0 (gsh (An f0 &&& An s0) (min f0 s0)))) (q) (Tm (12 * f0 + q) ||| Tm (12 * s0 + q))) Kw Kw cd ++ ([])) rfl rfl rfl (fun _ => rfl) (fun _ => rfl) (fun _ => rfl) (fun _ => rfl) rfl rfl rfl rfl rfl (Nat.le_of_ble_eq_true rfl) dX6_merges_79 ⟨by decide, by decide⟩ (fun _ h_35 => ?_)
          refine v_iinc C [(4, .int (iI (((q : Nat) : Int) + 1))), (0, .ref (mm)), (1, .int (iI ((f0 : Nat) : Int))), (2, .int (iI ((s0 : Nat) : Int))), (3, .int (iI ((gsh (An f0 &&& An s0) (min f0 s0) : Nat) : Int)))] dX6_merges_82 4 rfl (by decide) rfl ?_
          rw [show ((q : Nat) : Int) + 1 = ((q + 1 : Nat) : Int) from rfl]
          refine v_goto C 10 dX6_merges_85 (by decide) ?_
          refine v_lv (lv' := [(0, .ref (mm)), (1, .int (iI ((f0 : Nat) : Int))), (2, .int (iI ((s0 : Nat) : Int))), (3, .int (iI ((gsh (An f0 &&& An s0) (min f0 s0) : Nat) : Int))), (4, .int (iI ((q + 1 : Nat) : Int)))]) [1, 2, 3, 4, 0] rfl ?_
          refine v_ws (ws' := wMM g mm b1 b2 b3 b4 b5 b6 b7 b8 b9 b10 b11 b12 b13 b14 b15 b16 b17 kinds ni cm first second An An Tm Tm bc hds tgs qc qi qo qs cn vals (npF Nw (q + 1) (mgF Tm f0 s0 (gsh (An f0 &&& An s0) (min f0 s0)))) (npF Nw (q + 1) (mgF Tm f0 s0 (gsh (An f0 &&& An s0) (min f0 s0)))) Kw Kw cd ++ ([])) (by rw [np_step (show mgF Tm f0 s0 (gsh (An f0 &&& An s0) (min f0 s0)) q = _ from mg_c (of_decide_eq_false c_26) (of_decide_eq_false c_31) (of_decide_eq_false c_34))]) ?_
          exact ih10 (q + 1) (by omega) (by omega)
        ·
          refine v_aload_n C dX6_merges_63 rfl 0 rfl ?_
          refine v_iload_n C dX6_merges_64 rfl 2 rfl ?_
          refine v_iload_n C dX6_merges_65 rfl 2 rfl ?_
          refine v_iload C dX6_merges_66 4 rfl ?_
          refine v_invVV C (As := [.int (iI ((s0 : Nat) : Int)), .int (iI ((s0 : Nat) : Int)), .int (iI ((q : Nat) : Int))]) (q0 := 0) (ci := 6) (kX6_unites l g (mm := mm) (b1 := b1) (b2 := b2) (b3 := b3) (b4 := b4) (b5 := b5) (b6 := b6) (b7 := b7) (b8 := b8) (b9 := b9) (b10 := b10) (b11 := b11) (b12 := b12) (b13 := b13) (b14 := b14) (b15 := b15) (b16 := b16) (b17 := b17) (kinds := kinds) (tgs := tgs) (first := first) (second := second) (vals := vals) (qs := qs) (hds := hds) (An := An) (qi := qi) (qo := qo) (Tm := Tm) (Nw := npF Nw q (mgF Tm f0 s0 (gsh (An f0 &&& An s0) (min f0 s0)))) (Kw := Kw) (ni := ni) (bc := bc) (cm := cm) (cn := cn) (qc := qc) (cd := cd) (ris := ris) (c0 := s0) (d0 := s0) (i0 := q) (by omega) (by omega) (by omega)) (cwV 3 C.2.2.2.2.1 gX6_merges_X6_unites rfl rfl rfl (by decide +kernel) ⟨Nat.le_of_ble_eq_true rfl, Nat.le_of_ble_eq_true rfl⟩) [wMM g mm b1 b2 b3 b4 b5 b6 b7 b8 b9 b10 b11 b12 b13 b14 b15 b16 b17 kinds ni cm first second An An Tm Tm bc hds tgs qc qi qo qs cn vals (npF Nw q (mgF Tm f0 s0 (gsh (An f0 &&& An s0) (min f0 s0)))) (npF Nw q (mgF Tm f0 s0 (gsh (An f0 &&& An s0) (min f0 s0)))) Kw Kw cd] [0] [] [] (fun _ => [wMM g mm b1 b2 b3 b4 b5 b6 b7 b8 b9 b10 b11 b12 b13 b14 b15 b16 b17 kinds ni cm first second An An Tm Tm bc hds tgs qc qi qo qs cn vals (updN (npF Nw q (mgF Tm f0 s0 (gsh (An f0 &&& An s0) (min f0 s0)))) (q) (Tm (12 * s0 + q) ||| Tm (12 * s0 + q))) (updN (npF Nw q (mgF Tm f0 s0 (gsh (An f0 &&& An s0) (min f0 s0)))) (q) (Tm (12 * s0 + q) ||| Tm (12 * s0 + q))) Kw Kw cd]) (fun _ => wMM g mm b1 b2 b3 b4 b5 b6 b7 b8 b9 b10 b11 b12 b13 b14 b15 b16 b17 kinds ni cm first second An An Tm Tm bc hds tgs qc qi qo qs cn vals (updN (npF Nw q (mgF Tm f0 s0 (gsh (An f0 &&& An s0) (min f0 s0)))) (q) (Tm (12 * s0 + q) ||| Tm (12 * s0 + q))) (updN (npF Nw q (mgF Tm f0 s0 (gsh (An f0 &&& An s0) (min f0 s0)))) (q) (Tm (12 * s0 + q) ||| Tm (12 * s0 + q))) Kw Kw cd ++ ([])) rfl rfl rfl (fun _ => rfl) (fun _ => rfl) (fun _ => rfl) (fun _ => rfl) rfl rfl rfl rfl rfl (Nat.le_of_ble_eq_true rfl) dX6_merges_68 ⟨by decide, by decide⟩ (fun _ h_37 => ?_)
          refine v_goto C 82 dX6_merges_71 (by decide) ?_
          refine v_iinc C [(4, .int (iI (((q : Nat) : Int) + 1))), (0, .ref (mm)), (1, .int (iI ((f0 : Nat) : Int))), (2, .int (iI ((s0 : Nat) : Int))), (3, .int (iI ((gsh (An f0 &&& An s0) (min f0 s0) : Nat) : Int)))] dX6_merges_82 4 rfl (by decide) rfl ?_
          rw [show ((q : Nat) : Int) + 1 = ((q + 1 : Nat) : Int) from rfl]
          refine v_goto C 10 dX6_merges_85 (by decide) ?_
          refine v_lv (lv' := [(0, .ref (mm)), (1, .int (iI ((f0 : Nat) : Int))), (2, .int (iI ((s0 : Nat) : Int))), (3, .int (iI ((gsh (An f0 &&& An s0) (min f0 s0) : Nat) : Int))), (4, .int (iI ((q + 1 : Nat) : Int)))]) [1, 2, 3, 4, 0] rfl ?_
          refine v_ws (ws' := wMM g mm b1 b2 b3 b4 b5 b6 b7 b8 b9 b10 b11 b12 b13 b14 b15 b16 b17 kinds ni cm first second An An Tm Tm bc hds tgs qc qi qo qs cn vals (npF Nw (q + 1) (mgF Tm f0 s0 (gsh (An f0 &&& An s0) (min f0 s0)))) (npF Nw (q + 1) (mgF Tm f0 s0 (gsh (An f0 &&& An s0) (min f0 s0)))) Kw Kw cd ++ ([])) (by rw [Nat.or_self, np_step (show mgF Tm f0 s0 (gsh (An f0 &&& An s0) (min f0 s0)) q = _ from mg_b (of_decide_eq_false c_26) (of_decide_eq_false c_31) (of_decide_eq_true c_34))]) ?_
          exact ih10 (q + 1) (by omega) (by omega)
      ·
        refine v_aload_n C dX6_merges_41 rfl 0 rfl ?_
        refine v_iload_n C dX6_merges_42 rfl 1 rfl ?_
        refine v_iload_n C dX6_merges_43 rfl 1 rfl ?_
        refine v_iload C dX6_merges_44 4 rfl ?_
        refine v_invVV C (As := [.int (iI ((f0 : Nat) : Int)), .int (iI ((f0 : Nat) : Int)), .int (iI ((q : Nat) : Int))]) (q0 := 0) (ci := 6) (kX6_unites l g (mm := mm) (b1 := b1) (b2 := b2) (b3 := b3) (b4 := b4) (b5 := b5) (b6 := b6) (b7 := b7) (b8 := b8) (b9 := b9) (b10 := b10) (b11 := b11) (b12 := b12) (b13 := b13) (b14 := b14) (b15 := b15) (b16 := b16) (b17 := b17) (kinds := kinds) (tgs := tgs) (first := first) (second := second) (vals := vals) (qs := qs) (hds := hds) (An := An) (qi := qi) (qo := qo) (Tm := Tm) (Nw := npF Nw q (mgF Tm f0 s0 (gsh (An f0 &&& An s0) (min f0 s0)))) (Kw := Kw) (ni := ni) (bc := bc) (cm := cm) (cn := cn) (qc := qc) (cd := cd) (ris := ris) (c0 := f0) (d0 := f0) (i0 := q) (by omega) (by omega) (by omega)) (cwV 3 C.2.2.2.2.1 gX6_merges_X6_unites rfl rfl rfl (by decide +kernel) ⟨Nat.le_of_ble_eq_true rfl, Nat.le_of_ble_eq_true rfl⟩) [wMM g mm b1 b2 b3 b4 b5 b6 b7 b8 b9 b10 b11 b12 b13 b14 b15 b16 b17 kinds ni cm first second An An Tm Tm bc hds tgs qc qi qo qs cn vals (npF Nw q (mgF Tm f0 s0 (gsh (An f0 &&& An s0) (min f0 s0)))) (npF Nw q (mgF Tm f0 s0 (gsh (An f0 &&& An s0) (min f0 s0)))) Kw Kw cd] [0] [] [] (fun _ => [wMM g mm b1 b2 b3 b4 b5 b6 b7 b8 b9 b10 b11 b12 b13 b14 b15 b16 b17 kinds ni cm first second An An Tm Tm bc hds tgs qc qi qo qs cn vals (updN (npF Nw q (mgF Tm f0 s0 (gsh (An f0 &&& An s0) (min f0 s0)))) (q) (Tm (12 * f0 + q) ||| Tm (12 * f0 + q))) (updN (npF Nw q (mgF Tm f0 s0 (gsh (An f0 &&& An s0) (min f0 s0)))) (q) (Tm (12 * f0 + q) ||| Tm (12 * f0 + q))) Kw Kw cd]) (fun _ => wMM g mm b1 b2 b3 b4 b5 b6 b7 b8 b9 b10 b11 b12 b13 b14 b15 b16 b17 kinds ni cm first second An An Tm Tm bc hds tgs qc qi qo qs cn vals (updN (npF Nw q (mgF Tm f0 s0 (gsh (An f0 &&& An s0) (min f0 s0)))) (q) (Tm (12 * f0 + q) ||| Tm (12 * f0 + q))) (updN (npF Nw q (mgF Tm f0 s0 (gsh (An f0 &&& An s0) (min f0 s0)))) (q) (Tm (12 * f0 + q) ||| Tm (12 * f0 + q))) Kw Kw cd ++ ([])) rfl rfl rfl (fun _ => rfl) (fun _ => rfl) (fun _ => rfl) (fun _ => rfl) rfl rfl rfl rfl rfl (Nat.le_of_ble_eq_true rfl) dX6_merges_46 ⟨by decide, by decide⟩ (fun _ h_39 => ?_)
        refine v_goto C 82 dX6_merges_49 (by decide) ?_
        refine v_iinc C [(4, .int (iI (((q : Nat) : Int) + 1))), (0, .ref (mm)), (1, .int (iI ((f0 : Nat) : Int))), (2, .int (iI ((s0 : Nat) : Int))), (3, .int (iI ((gsh (An f0 &&& An s0) (min f0 s0) : Nat) : Int)))] dX6_merges_82 4 rfl (by decide) rfl ?_
        rw [show ((q : Nat) : Int) + 1 = ((q + 1 : Nat) : Int) from rfl]
        refine v_goto C 10 dX6_merges_85 (by decide) ?_
        refine v_lv (lv' := [(0, .ref (mm)), (1, .int (iI ((f0 : Nat) : Int))), (2, .int (iI ((s0 : Nat) : Int))), (3, .int (iI ((gsh (An f0 &&& An s0) (min f0 s0) : Nat) : Int))), (4, .int (iI ((q + 1 : Nat) : Int)))]) [1, 2, 3, 4, 0] rfl ?_
        refine v_ws (ws' := wMM g mm b1 b2 b3 b4 b5 b6 b7 b8 b9 b10 b11 b12 b13 b14 b15 b16 b17 kinds ni cm first second An An Tm Tm bc hds tgs qc qi qo qs cn vals (npF Nw (q + 1) (mgF Tm f0 s0 (gsh (An f0 &&& An s0) (min f0 s0)))) (npF Nw (q + 1) (mgF Tm f0 s0 (gsh (An f0 &&& An s0) (min f0 s0)))) Kw Kw cd ++ ([])) (by rw [Nat.or_self, np_step (show mgF Tm f0 s0 (gsh (An f0 &&& An s0) (min f0 s0)) q = _ from mg_a (Or.inr (of_decide_eq_true c_31)))]) ?_
        exact ih10 (q + 1) (by omega) (by omega)
