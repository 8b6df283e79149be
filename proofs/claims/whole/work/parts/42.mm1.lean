abbrev wMM (g : vG) (a : Nat) (b1 : Nat) (b2 : Nat) (b3 : Nat) (b4 : Nat) (b5 : Nat) (b6 : Nat) (b7 : Nat) (b8 : Nat) (b9 : Nat) (b10 : Nat) (b11 : Nat) (b12 : Nat) (b13 : Nat) (b14 : Nat) (b15 : Nat) (b16 : Nat) (b17 : Nat) (kinds : Nat → Int) (ni : Nat) (cm : Nat) (first : Nat → Int) (second : Nat → Int) (U : Nat → Nat) (W : Nat → Nat) (T : Nat → Nat) (V : Nat → Nat) (bc : Nat) (heads : Nat → Nat) (tags : Nat → Int) (qc : Nat) (qi : Nat → Nat) (qo : Nat → Nat) (qs : Nat → Int) (cn : Nat) (vals : Nat → Int) (X : Nat → Nat) (Y : Nat → Nat) (K : Nat → Nat) (J : Nat → Nat) (cd : Nat) : va_W := [cO a 6 [.int (iI ((ni : Nat) : Int)), .ref (b1), .int (iI ((cm : Nat) : Int)), .ref (b2), .ref (b3), .ref (b4), .ref (b5), .ref (b6), .ref (b7), .int (iI ((bc : Nat) : Int)), .ref (b8), .ref (b9), .int (iI ((qc : Nat) : Int)), .ref (b10), .ref (b11), .ref (b12), .int (iI ((cn : Nat) : Int)), .ref (b13), .ref (b14), .ref (b15), .ref (b16), .ref (b17), .int (iI ((cd : Nat) : Int))], cC g b1 12 kinds, cI g b2 100 first, cI g b3 100 second, cL g b4 100 (xml U), cL g b5 100 (xmh W), cL g b6 1200 (xml T), cL g b7 1200 (xmh V), cIn g b8 5 heads, cI g b9 10 tags, cIn g b10 10 qi, cIn g b11 10 qo, cI g b12 10 qs, cI g b13 101 vals, cL g b14 12 (xml X), cL g b15 12 (xmh Y), cL g b16 12 (xml K), cL g b17 12 (xmh J)]
/-- the ancestors: each commit its own one, the commit 0 one of all, none later -/
def AO (An : Nat → Nat) (cm : Nat) : Prop := ∀ j, j < cm → (An j).testBit 0 = true ∧ (An j).testBit j = true ∧ ∀ k, (An j).testBit k = true → k ≤ j
/-- each told item holds a side, and told ones alone, in each commit -/
def TOK (cn cm ni : Nat) (T : Nat → Nat) : Prop := ∀ c, c < cm → ∀ i, i < ni → 0 < T (12 * c + i) ∧ T (12 * c + i) < 2 ^ cn
def MI (vals : Nat → Int) (ris : Nat → Nat) (cn : Nat) (kinds tgs first second qs : Nat → Int) (hds An qi qo Tm : Nat → Nat) (ni bc cm qc : Nat) : Prop :=
  ni ≤ 12 ∧ 1 ≤ bc ∧ bc ≤ 5 ∧ 1 ≤ cm ∧ cm ≤ 100 ∧ 1 ≤ cn ∧ cn ≤ cm ∧ qc ≤ 10 ∧ (∀ k, hds k < cm) ∧ (∀ k, -1 ≤ tgs k ∧ tgs k < 100) ∧ (∀ k, -1 ≤ first k ∧ first k < 100) ∧ (∀ k, -1 ≤ second k ∧ second k < 100) ∧ (∀ k, k < cm → first k < (k : Int)) ∧ (∀ k, k < cm → second k < (k : Int) ∧ (first k < 0 → second k < 0)) ∧ T101 An ∧ T101 Tm ∧ AO An cm ∧ PalOK vals ris cn ∧ (∀ k, k < 10 → qi k < 12 ∧ qo k < 12 ∧ -99 ≤ qs k ∧ qs k ≤ 99) ∧ (∀ k, k < qc → qi k < ni ∧ qo k < ni) ∧ TOK cn cm ni Tm ∧ (∀ k, 0 ≤ kinds k ∧ kinds k < 65536)
theorem TOK.lt {cn cm ni : Nat} {T : Nat → Nat} (h : TOK cn cm ni T) {c i : Nat} (hc : c < cm) (hi : i < ni) : T (12 * c + i) < 2 ^ cn := (h c hc i hi).2
set_option maxHeartbeats 4000000 in
set_option maxRecDepth 100000 in
theorem kX6_at (l : Launch) (g : vG) {r0 i0 : Nat}  : mI l g yX6_at wsX6_at ({ frames := 0, cells := 0, slots := 0, locals := 0 }) [.int (iI ((r0 : Nat) : Int)), .int (iI ((i0 : Nat) : Int))] ([]) (fun _ : Unit => []) (fun v _ => v = iI ((12 * r0 + i0 : Nat) : Int)) 0 0 := by
  refine mI_of (cc := cX6_at) (maxL := 2) (ret := (some .int)) (own := RX6) (by decide) rfl rfl (Nat.le_of_ble_eq_true rfl) ?_
  intro p e s m args below meth c A C hr hl hin
  refine v_bipush C (z := 12) dX6_at_0 rfl ?_
  refine v_iload_n C dX6_at_2 rfl 0 rfl ?_
  refine v_imul C dX6_at_3 ?_
  refine v_iload_n C dX6_at_4 rfl 1 rfl ?_
  refine v_iadd C dX6_at_5 ?_
  exact (v_iret C hr hl () (by decide) (by decide) rfl (congrArg iI (by omega)) dX6_at_6)
set_option maxHeartbeats 4000000 in
set_option maxRecDepth 100000 in
theorem kX6_has (l : Launch) (g : vG) {S n : Nat} (hn : n < 101) (hS : S < 2 ^ 101) : mI l g yX6_has wsX6_has ({ frames := 0, cells := 0, slots := 0, locals := 0 }) [.long (loM (S)), .long (hiM (S)), .int (iI ((n : Nat) : Int))] ([]) (fun _ : Unit => []) (fun v _ => v = iI (bZ (S.testBit n))) 0 0 := by
  refine mI_of (cc := cX6_has) (maxL := 5) (ret := (some .boolean)) (own := RX6) (by decide) rfl rfl (Nat.le_of_ble_eq_true rfl) ?_
  intro p e s m args below meth c A C hr hl hin
  refine v_iload C dX6_has_0 2 rfl ?_
  refine v_bipush C (z := 50) dX6_has_2 rfl ?_
  refine v_icmp_ge C 26 dX6_has_4 (by decide) ⟨by omega, by omega⟩ (b31_lit _ rfl) (fun c_1 => ?_) (fun c_1 => ?_)
  ·
    refine v_lload_n C dX6_has_26 rfl 1 rfl ?_
    refine v_iload C dX6_has_27 2 rfl ?_
    refine v_bipush C (z := 50) dX6_has_29 rfl ?_
    refine v_isub C dX6_has_31 ?_
    rw [show (((n : Nat) : Int)) - 50 = ((n - 50 : Nat) : Int) by omega]
    refine v_lshr C dX6_has_32 (m_sarH hS (by omega)) ?_
    refine v_lconst C (v := lN 1) dX6_has_33 rfl ?_
    refine v_land_lo C dX6_has_34 ?_
    refine v_lconst C (v := lN 1) dX6_has_35 rfl ?_
    refine v_lcmp C dX6_has_36 ?_
    refine v_ifl_ne C 44 dX6_has_37 (by decide) (fun c_2 => ?_) (fun c_2 => ?_)
    ·
      refine v_iconst C (z := 0) dX6_has_44 ?_
      exact (v_zret C hr hl () rfl (by decide) (by decide) rfl (bz_f (mhas_Hf (by omega) c_2)) dX6_has_45)
    ·
      refine v_iconst C (z := 1) dX6_has_40 ?_
      refine v_goto C 45 dX6_has_41 (by decide) ?_
      exact (v_zret C hr hl () rfl (by decide) (by decide) rfl (bz_t (mhas_Ht (by omega) c_2)) dX6_has_45)
  ·
    refine v_lload_n C dX6_has_7 rfl 0 rfl ?_
    refine v_iload C dX6_has_8 2 rfl ?_
    refine v_lshr C dX6_has_10 (m_sarL (by omega)) ?_
    refine v_lconst C (v := lN 1) dX6_has_11 rfl ?_
    refine v_land_lo C dX6_has_12 ?_
    refine v_lconst C (v := lN 1) dX6_has_13 rfl ?_
    refine v_lcmp C dX6_has_14 ?_
    refine v_ifl_ne C 22 dX6_has_15 (by decide) (fun c_3 => ?_) (fun c_3 => ?_)
    ·
      refine v_iconst C (z := 0) dX6_has_22 ?_
      refine v_goto C 45 dX6_has_23 (by decide) ?_
      exact (v_zret C hr hl () rfl (by decide) (by decide) rfl (bz_f (mhas_Lf (by omega) c_3)) dX6_has_45)
    ·
      refine v_iconst C (z := 1) dX6_has_18 ?_
      refine v_goto C 45 dX6_has_19 (by decide) ?_
      exact (v_zret C hr hl () rfl (by decide) (by decide) rfl (bz_t (mhas_Lt (by omega) c_3)) dX6_has_45)
theorem inX6_fails_6 : ∀ w ∈ u_ws RX6 TX6 23, w ∈ wsX6_fails := by decide +kernel
theorem lkX6_fails_73 : Cond.fieldLink RX6 73 "MergeAtelierModel" "code" "I" ∈ wsX6_fails := by decide +kernel
set_option maxHeartbeats 4000000 in
set_option maxRecDepth 100000 in
theorem kX6_fails_z (l : Launch) (g : vG) {mm b1 b2 b3 b4 b5 b6 b7 b8 b9 b10 b11 b12 b13 b14 b15 b16 b17 : Nat} {kinds tgs first second vals qs : Nat → Int} {hds An qi qo Tm Nw Kw ris : Nat → Nat} {ni bc cm cn qc cd : Nat}   : mI l g yX6_fails wsX6_fails ({ frames := 0, cells := 0, slots := 0, locals := 0 }) [.ref (mm), .int (iI (0))] (wMM g mm b1 b2 b3 b4 b5 b6 b7 b8 b9 b10 b11 b12 b13 b14 b15 b16 b17 kinds ni cm first second An An Tm Tm bc hds tgs qc qi qo qs cn vals Nw Nw Kw Kw cd ++ ([])) (fun _ : Unit => wMM g mm b1 b2 b3 b4 b5 b6 b7 b8 b9 b10 b11 b12 b13 b14 b15 b16 b17 kinds ni cm first second An An Tm Tm bc hds tgs qc qi qo qs cn vals Nw Nw Kw Kw 0 ++ ([])) (fun v _ => v = iI (bZ false)) 0 0 := by
  refine mI_of (cc := cX6_fails) (maxL := 2) (ret := (some .boolean)) (own := RX6) (by decide) rfl rfl (Nat.le_of_ble_eq_true rfl) ?_
  intro p e s m args below meth c A C hr hl hin
  refine v_aload_n C dX6_fails_0 rfl 0 rfl ?_
  refine v_iload_n C dX6_fails_1 rfl 1 rfl ?_
  refine v_put C 0 (kf := 22) (wMM g mm b1 b2 b3 b4 b5 b6 b7 b8 b9 b10 b11 b12 b13 b14 b15 b16 b17 kinds ni cm first second An An Tm Tm bc hds tgs qc qi qo qs cn vals Nw Nw Kw Kw 0 ++ ([])) rfl rfl (by decide) inX6_fails_6 lkX6_fails_73 rfl tyX6_ok nmX6 rfl rfl rfl (Nat.le_of_ble_eq_true rfl) dX6_fails_2 rfl ?_
  refine v_iload_n C dX6_fails_5 rfl 1 rfl ?_
  refine v_if_le C 13 dX6_fails_6 (by decide) (b31_lit _ rfl) (fun _ => ?_) (fun h => absurd h (by decide))
  refine v_iconst C (z := 0) dX6_fails_13 ?_
  exact (v_zret C hr hl () rfl (by decide) (by decide) rfl rfl dX6_fails_14)
set_option maxHeartbeats 4000000 in
set_option maxRecDepth 100000 in
theorem kX6_fails_p (l : Launch) (g : vG) {mm b1 b2 b3 b4 b5 b6 b7 b8 b9 b10 b11 b12 b13 b14 b15 b16 b17 : Nat} {kinds tgs first second vals qs : Nat → Int} {hds An qi qo Tm Nw Kw ris : Nat → Nat} {ni bc cm cn qc cd : Nat} {q : Nat} (hq : 0 < q ∧ q < 100) : mI l g yX6_fails wsX6_fails ({ frames := 0, cells := 0, slots := 0, locals := 0 }) [.ref (mm), .int (iI ((q : Nat) : Int))] (wMM g mm b1 b2 b3 b4 b5 b6 b7 b8 b9 b10 b11 b12 b13 b14 b15 b16 b17 kinds ni cm first second An An Tm Tm bc hds tgs qc qi qo qs cn vals Nw Nw Kw Kw cd ++ ([])) (fun _ : Unit => wMM g mm b1 b2 b3 b4 b5 b6 b7 b8 b9 b10 b11 b12 b13 b14 b15 b16 b17 kinds ni cm first second An An Tm Tm bc hds tgs qc qi qo qs cn vals Nw Nw Kw Kw q ++ ([])) (fun v _ => v = iI (bZ true)) 0 0 := by
  refine mI_of (cc := cX6_fails) (maxL := 2) (ret := (some .boolean)) (own := RX6) (by decide) rfl rfl (Nat.le_of_ble_eq_true rfl) ?_
  intro p e s m args below meth c A C hr hl hin
  refine v_aload_n C dX6_fails_0 rfl 0 rfl ?_
  refine v_iload_n C dX6_fails_1 rfl 1 rfl ?_
  refine v_put C 0 (kf := 22) (wMM g mm b1 b2 b3 b4 b5 b6 b7 b8 b9 b10 b11 b12 b13 b14 b15 b16 b17 kinds ni cm first second An An Tm Tm bc hds tgs qc qi qo qs cn vals Nw Nw Kw Kw q ++ ([])) rfl rfl (by decide) inX6_fails_6 lkX6_fails_73 rfl tyX6_ok nmX6 rfl rfl rfl (Nat.le_of_ble_eq_true rfl) dX6_fails_2 rfl ?_
  refine v_iload_n C dX6_fails_5 rfl 1 rfl ?_
  refine v_if_le C 13 dX6_fails_6 (by decide) ⟨by omega, by omega⟩ (fun c_1 => ?_) (fun c_1 => ?_)
  ·
    exfalso; omega
  ·
    refine v_iconst C (z := 1) dX6_fails_9 ?_
    refine v_goto C 14 dX6_fails_10 (by decide) ?_
    exact (v_zret C hr hl () rfl (by decide) (by decide) rfl rfl dX6_fails_14)
theorem inX6_tells_6 : ∀ w ∈ u_ws RX6 TX6 23, w ∈ wsX6_tells := by decide +kernel
theorem lkX6_tells_73 : Cond.fieldLink RX6 73 "MergeAtelierModel" "code" "I" ∈ wsX6_tells := by decide +kernel
set_option maxHeartbeats 4000000 in
set_option maxRecDepth 100000 in
theorem kX6_tells (l : Launch) (g : vG) {mm b1 b2 b3 b4 b5 b6 b7 b8 b9 b10 b11 b12 b13 b14 b15 b16 b17 : Nat} {kinds tgs first second vals qs : Nat → Int} {hds An qi qo Tm Nw Kw ris : Nat → Nat} {ni bc cm cn qc cd : Nat} {x : Int}  : mI l g yX6_tells wsX6_tells ({ frames := 0, cells := 0, slots := 0, locals := 0 }) [.ref (mm), .int (iI (x))] (wMM g mm b1 b2 b3 b4 b5 b6 b7 b8 b9 b10 b11 b12 b13 b14 b15 b16 b17 kinds ni cm first second An An Tm Tm bc hds tgs qc qi qo qs cn vals Nw Nw Kw Kw cd ++ ([])) (fun _ : Unit => wMM g mm b1 b2 b3 b4 b5 b6 b7 b8 b9 b10 b11 b12 b13 b14 b15 b16 b17 kinds ni cm first second An An Tm Tm bc hds tgs qc qi qo qs cn vals Nw Nw Kw Kw 0 ++ ([])) (fun v _ => v = iI x) 0 0 := by
  refine mI_of (cc := cX6_tells) (maxL := 2) (ret := (some .int)) (own := RX6) (by decide) rfl rfl (Nat.le_of_ble_eq_true rfl) ?_
  intro p e s m args below meth c A C hr hl hin
  refine v_aload_n C dX6_tells_0 rfl 0 rfl ?_
  refine v_iconst C (z := 0) dX6_tells_1 ?_
  refine v_put C 0 (kf := 22) (wMM g mm b1 b2 b3 b4 b5 b6 b7 b8 b9 b10 b11 b12 b13 b14 b15 b16 b17 kinds ni cm first second An An Tm Tm bc hds tgs qc qi qo qs cn vals Nw Nw Kw Kw 0 ++ ([])) rfl rfl (by decide) inX6_tells_6 lkX6_tells_73 rfl tyX6_ok nmX6 rfl rfl rfl (Nat.le_of_ble_eq_true rfl) dX6_tells_2 rfl ?_
  refine v_iload_n C dX6_tells_5 rfl 1 rfl ?_
  exact (v_iret C hr hl () (by decide) (by decide) rfl rfl dX6_tells_6)
theorem inX6_thrown_6 : ∀ w ∈ u_ws RX6 TX6 23, w ∈ wsX6_thrown := by decide +kernel
theorem lkX6_thrown_73 : Cond.fieldLink RX6 73 "MergeAtelierModel" "code" "I" ∈ wsX6_thrown := by decide +kernel
set_option maxHeartbeats 4000000 in
set_option maxRecDepth 100000 in
theorem kX6_thrown (l : Launch) (g : vG) {mm b1 b2 b3 b4 b5 b6 b7 b8 b9 b10 b11 b12 b13 b14 b15 b16 b17 : Nat} {kinds tgs first second vals qs : Nat → Int} {hds An qi qo Tm Nw Kw ris : Nat → Nat} {ni bc cm cn qc cd : Nat}   : mI l g yX6_thrown wsX6_thrown ({ frames := 0, cells := 0, slots := 0, locals := 0 }) [.ref (mm)] (wMM g mm b1 b2 b3 b4 b5 b6 b7 b8 b9 b10 b11 b12 b13 b14 b15 b16 b17 kinds ni cm first second An An Tm Tm bc hds tgs qc qi qo qs cn vals Nw Nw Kw Kw cd ++ ([])) (fun _ : Unit => wMM g mm b1 b2 b3 b4 b5 b6 b7 b8 b9 b10 b11 b12 b13 b14 b15 b16 b17 kinds ni cm first second An An Tm Tm bc hds tgs qc qi qo qs cn vals Nw Nw Kw Kw cd ++ ([])) (fun v _ => v = iI ((cd : Nat) : Int)) 0 0 := by
  refine mI_of (cc := cX6_thrown) (maxL := 1) (ret := (some .int)) (own := RX6) (by decide) rfl rfl (Nat.le_of_ble_eq_true rfl) ?_
  intro p e s m args below meth c A C hr hl hin
  refine v_aload_n C dX6_thrown_0 rfl 0 rfl ?_
  refine v_get C 0 (kf := 22) rfl rfl (by decide) inX6_thrown_6 lkX6_thrown_73 rfl rfl dX6_thrown_1 ?_
  exact (v_iret C hr hl () (by decide) (by decide) rfl rfl dX6_thrown_4)
set_option maxHeartbeats 4000000 in
set_option maxRecDepth 100000 in
theorem kX6_in_t (l : Launch) (g : vG) {x y z : Int} (hx : b31 x) (hy : b31 y) (hz : b31 z) (h1 : y ≤ x) (h2 : x ≤ z) : mI l g yX6_in wsX6_in ({ frames := 0, cells := 0, slots := 0, locals := 0 }) [.int (iI (x)), .int (iI (y)), .int (iI (z))] ([]) (fun _ : Unit => []) (fun v _ => v = iI (bZ true)) 0 0 := by
  refine mI_of (cc := cX6_in) (maxL := 3) (ret := (some .boolean)) (own := RX6) (by decide) rfl rfl (Nat.le_of_ble_eq_true rfl) ?_
  intro p e s m args below meth c A C hr hl hin
  have hx1 := hx.1
  have hx2 := hx.2
  have hy1 := hy.1
  have hy2 := hy.2
  have hz1 := hz.1
  have hz2 := hz.2
  refine v_iload_n C dX6_in_0 rfl 0 rfl ?_
  refine v_iload_n C dX6_in_1 rfl 1 rfl ?_
  refine v_icmp_lt C 14 dX6_in_2 (by decide) ⟨by omega, by omega⟩ ⟨by omega, by omega⟩ (fun c_1 => ?_) (fun c_1 => ?_)
  ·
    exfalso; omega
  ·
    refine v_iload_n C dX6_in_5 rfl 0 rfl ?_
    refine v_iload_n C dX6_in_6 rfl 2 rfl ?_
    refine v_icmp_gt C 14 dX6_in_7 (by decide) ⟨by omega, by omega⟩ ⟨by omega, by omega⟩ (fun c_2 => ?_) (fun c_2 => ?_)
    ·
      exfalso; omega
    ·
      refine v_iconst C (z := 1) dX6_in_10 ?_
      refine v_goto C 15 dX6_in_11 (by decide) ?_
      exact (v_zret C hr hl () rfl (by decide) (by decide) rfl rfl dX6_in_15)
set_option maxHeartbeats 4000000 in
set_option maxRecDepth 100000 in
theorem kX6_in_f (l : Launch) (g : vG) {x y z : Int} (hx : b31 x) (hy : b31 y) (hz : b31 z) (h1 : ¬ (y ≤ x ∧ x ≤ z)) : mI l g yX6_in wsX6_in ({ frames := 0, cells := 0, slots := 0, locals := 0 }) [.int (iI (x)), .int (iI (y)), .int (iI (z))] ([]) (fun _ : Unit => []) (fun v _ => v = iI (bZ false)) 0 0 := by
  refine mI_of (cc := cX6_in) (maxL := 3) (ret := (some .boolean)) (own := RX6) (by decide) rfl rfl (Nat.le_of_ble_eq_true rfl) ?_
  intro p e s m args below meth c A C hr hl hin
  have hx1 := hx.1
  have hx2 := hx.2
  have hy1 := hy.1
  have hy2 := hy.2
  have hz1 := hz.1
  have hz2 := hz.2
  refine v_iload_n C dX6_in_0 rfl 0 rfl ?_
  refine v_iload_n C dX6_in_1 rfl 1 rfl ?_
  refine v_icmp_lt C 14 dX6_in_2 (by decide) ⟨by omega, by omega⟩ ⟨by omega, by omega⟩ (fun c_1 => ?_) (fun c_1 => ?_)
  ·
    refine v_iconst C (z := 0) dX6_in_14 ?_
    exact (v_zret C hr hl () rfl (by decide) (by decide) rfl rfl dX6_in_15)
  ·
    refine v_iload_n C dX6_in_5 rfl 0 rfl ?_
    refine v_iload_n C dX6_in_6 rfl 2 rfl ?_
    refine v_icmp_gt C 14 dX6_in_7 (by decide) ⟨by omega, by omega⟩ ⟨by omega, by omega⟩ (fun c_2 => ?_) (fun c_2 => ?_)
    ·
      refine v_iconst C (z := 0) dX6_in_14 ?_
      exact (v_zret C hr hl () rfl (by decide) (by decide) rfl rfl dX6_in_15)
    ·
      exfalso; omega
theorem inX6_isNoItem_6 : ∀ w ∈ u_ws RX6 TX6 23, w ∈ wsX6_isNoItem := by decide +kernel
theorem lkX6_isNoItem_76 : Cond.fieldLink RX6 76 "MergeAtelierModel" "items" "I" ∈ wsX6_isNoItem := by decide +kernel
set_option maxHeartbeats 4000000 in
set_option maxRecDepth 100000 in
theorem kX6_isNoItem_in (l : Launch) (g : vG) {mm b1 b2 b3 b4 b5 b6 b7 b8 b9 b10 b11 b12 b13 b14 b15 b16 b17 : Nat} {kinds tgs first second vals qs : Nat → Int} {hds An qi qo Tm Nw Kw ris : Nat → Nat} {ni bc cm cn qc cd : Nat} {i0 : Nat} (h : i0 < ni) (hb : ni ≤ 100) : mI l g yX6_isNoItem wsX6_isNoItem ({ frames := 1, cells := 0, slots := 0, locals := 22 }) [.ref (mm), .int (iI ((i0 : Nat) : Int))] (wMM g mm b1 b2 b3 b4 b5 b6 b7 b8 b9 b10 b11 b12 b13 b14 b15 b16 b17 kinds ni cm first second An An Tm Tm bc hds tgs qc qi qo qs cn vals Nw Nw Kw Kw cd ++ ([])) (fun _ : Unit => wMM g mm b1 b2 b3 b4 b5 b6 b7 b8 b9 b10 b11 b12 b13 b14 b15 b16 b17 kinds ni cm first second An An Tm Tm bc hds tgs qc qi qo qs cn vals Nw Nw Kw Kw cd ++ ([])) (fun v _ => v = iI (bZ false)) 0 0 := by
  refine mI_of (cc := cX6_isNoItem) (maxL := 2) (ret := (some .boolean)) (own := RX6) (by decide) rfl rfl (Nat.le_of_ble_eq_true rfl) ?_
  intro p e s m args below meth c A C hr hl hin
  refine v_iload_n C dX6_isNoItem_0 rfl 1 rfl ?_
  refine v_iconst C (z := 0) dX6_isNoItem_1 ?_
  refine v_aload_n C dX6_isNoItem_2 rfl 0 rfl ?_
  refine v_get C 0 (kf := 0) rfl rfl (by decide) inX6_isNoItem_6 lkX6_isNoItem_76 rfl rfl dX6_isNoItem_3 ?_
  refine v_iconst C (z := 1) dX6_isNoItem_6 ?_
  refine v_isub C dX6_isNoItem_7 ?_
  refine v_invSI C (As := [.int (iI ((i0 : Nat) : Int)), .int (iI (0)), .int (iI ((((ni : Nat) : Int)) - 1))]) (kX6_in_t l g  (x := ((i0 : Nat) : Int)) (y := 0) (z := (((ni : Nat) : Int)) - 1) ⟨by omega, by omega⟩ (b31_lit _ rfl) ⟨by omega, by omega⟩ (by omega) (by omega)) (cwS 3 C.2.2.2.2.1 gX6_isNoItem_X6_in rfl rfl rfl (by decide +kernel) ⟨Nat.le_of_ble_eq_true rfl, Nat.le_of_ble_eq_true rfl⟩) [wMM g mm b1 b2 b3 b4 b5 b6 b7 b8 b9 b10 b11 b12 b13 b14 b15 b16 b17 kinds ni cm first second An An Tm Tm bc hds tgs qc qi qo qs cn vals Nw Nw Kw Kw cd] [] [0] [] (fun _ => [wMM g mm b1 b2 b3 b4 b5 b6 b7 b8 b9 b10 b11 b12 b13 b14 b15 b16 b17 kinds ni cm first second An An Tm Tm bc hds tgs qc qi qo qs cn vals Nw Nw Kw Kw cd]) (fun _ => wMM g mm b1 b2 b3 b4 b5 b6 b7 b8 b9 b10 b11 b12 b13 b14 b15 b16 b17 kinds ni cm first second An An Tm Tm bc hds tgs qc qi qo qs cn vals Nw Nw Kw Kw cd ++ ([])) rfl rfl rfl (fun _ => rfl) (fun _ => rfl) (fun _ => rfl) (fun _ => rfl) rfl rfl (Nat.le_of_ble_eq_true rfl) dX6_isNoItem_8 ⟨by decide, by decide⟩ (fun r_2 _ h_1 => ?_)
  subst h_1
  refine v_ifz_ne C 18 dX6_isNoItem_11 (by decide) (fun _ => ?_) (fun h => nomatch h) 
  refine v_iconst C (z := 0) dX6_isNoItem_18 ?_
  exact (v_zret C hr hl () rfl (by decide) (by decide) rfl rfl dX6_isNoItem_19)
set_option maxHeartbeats 4000000 in
set_option maxRecDepth 100000 in
theorem kX6_isNoItem_out (l : Launch) (g : vG) {mm b1 b2 b3 b4 b5 b6 b7 b8 b9 b10 b11 b12 b13 b14 b15 b16 b17 : Nat} {kinds tgs first second vals qs : Nat → Int} {hds An qi qo Tm Nw Kw ris : Nat → Nat} {ni bc cm cn qc cd : Nat} {x : Int} (hx : b31 x) (h : ¬ (0 ≤ x ∧ x < ((ni : Nat) : Int))) (hb : ni ≤ 100) : mI l g yX6_isNoItem wsX6_isNoItem ({ frames := 1, cells := 0, slots := 0, locals := 22 }) [.ref (mm), .int (iI (x))] (wMM g mm b1 b2 b3 b4 b5 b6 b7 b8 b9 b10 b11 b12 b13 b14 b15 b16 b17 kinds ni cm first second An An Tm Tm bc hds tgs qc qi qo qs cn vals Nw Nw Kw Kw cd ++ ([])) (fun _ : Unit => wMM g mm b1 b2 b3 b4 b5 b6 b7 b8 b9 b10 b11 b12 b13 b14 b15 b16 b17 kinds ni cm first second An An Tm Tm bc hds tgs qc qi qo qs cn vals Nw Nw Kw Kw cd ++ ([])) (fun v _ => v = iI (bZ true)) 0 0 := by
  refine mI_of (cc := cX6_isNoItem) (maxL := 2) (ret := (some .boolean)) (own := RX6) (by decide) rfl rfl (Nat.le_of_ble_eq_true rfl) ?_
  intro p e s m args below meth c A C hr hl hin
  have hx1 := hx.1
  have hx2 := hx.2
  refine v_iload_n C dX6_isNoItem_0 rfl 1 rfl ?_
  refine v_iconst C (z := 0) dX6_isNoItem_1 ?_
  refine v_aload_n C dX6_isNoItem_2 rfl 0 rfl ?_
  refine v_get C 0 (kf := 0) rfl rfl (by decide) inX6_isNoItem_6 lkX6_isNoItem_76 rfl rfl dX6_isNoItem_3 ?_
  refine v_iconst C (z := 1) dX6_isNoItem_6 ?_
  refine v_isub C dX6_isNoItem_7 ?_
  refine v_invSI C (As := [.int (iI (x)), .int (iI (0)), .int (iI ((((ni : Nat) : Int)) - 1))]) (kX6_in_f l g  (x := x) (y := 0) (z := (((ni : Nat) : Int)) - 1) ⟨by omega, by omega⟩ (b31_lit _ rfl) ⟨by omega, by omega⟩ (by omega)) (cwS 3 C.2.2.2.2.1 gX6_isNoItem_X6_in rfl rfl rfl (by decide +kernel) ⟨Nat.le_of_ble_eq_true rfl, Nat.le_of_ble_eq_true rfl⟩) [wMM g mm b1 b2 b3 b4 b5 b6 b7 b8 b9 b10 b11 b12 b13 b14 b15 b16 b17 kinds ni cm first second An An Tm Tm bc hds tgs qc qi qo qs cn vals Nw Nw Kw Kw cd] [] [0] [] (fun _ => [wMM g mm b1 b2 b3 b4 b5 b6 b7 b8 b9 b10 b11 b12 b13 b14 b15 b16 b17 kinds ni cm first second An An Tm Tm bc hds tgs qc qi qo qs cn vals Nw Nw Kw Kw cd]) (fun _ => wMM g mm b1 b2 b3 b4 b5 b6 b7 b8 b9 b10 b11 b12 b13 b14 b15 b16 b17 kinds ni cm first second An An Tm Tm bc hds tgs qc qi qo qs cn vals Nw Nw Kw Kw cd ++ ([])) rfl rfl rfl (fun _ => rfl) (fun _ => rfl) (fun _ => rfl) (fun _ => rfl) rfl rfl (Nat.le_of_ble_eq_true rfl) dX6_isNoItem_8 ⟨by decide, by decide⟩ (fun r_2 _ h_1 => ?_)
  subst h_1
  refine v_ifz_ne C 18 dX6_isNoItem_11 (by decide) (fun h => nomatch h) (fun _ => ?_)
  refine v_iconst C (z := 1) dX6_isNoItem_14 ?_
  refine v_goto C 19 dX6_isNoItem_15 (by decide) ?_
  exact (v_zret C hr hl () rfl (by decide) (by decide) rfl rfl dX6_isNoItem_19)
theorem inX6_isNoCommit_6 : ∀ w ∈ u_ws RX6 TX6 23, w ∈ wsX6_isNoCommit := by decide +kernel
theorem lkX6_isNoCommit_13 : Cond.fieldLink RX6 13 "MergeAtelierModel" "commits" "I" ∈ wsX6_isNoCommit := by decide +kernel
set_option maxHeartbeats 4000000 in
set_option maxRecDepth 100000 in
theorem kX6_isNoCommit_in (l : Launch) (g : vG) {mm b1 b2 b3 b4 b5 b6 b7 b8 b9 b10 b11 b12 b13 b14 b15 b16 b17 : Nat} {kinds tgs first second vals qs : Nat → Int} {hds An qi qo Tm Nw Kw ris : Nat → Nat} {ni bc cm cn qc cd : Nat} {i0 : Nat} (h : i0 < cm) (hb : cm ≤ 100) : mI l g yX6_isNoCommit wsX6_isNoCommit ({ frames := 1, cells := 0, slots := 0, locals := 22 }) [.ref (mm), .int (iI ((i0 : Nat) : Int))] (wMM g mm b1 b2 b3 b4 b5 b6 b7 b8 b9 b10 b11 b12 b13 b14 b15 b16 b17 kinds ni cm first second An An Tm Tm bc hds tgs qc qi qo qs cn vals Nw Nw Kw Kw cd ++ ([])) (fun _ : Unit => wMM g mm b1 b2 b3 b4 b5 b6 b7 b8 b9 b10 b11 b12 b13 b14 b15 b16 b17 kinds ni cm first second An An Tm Tm bc hds tgs qc qi qo qs cn vals Nw Nw Kw Kw cd ++ ([])) (fun v _ => v = iI (bZ false)) 0 0 := by
  refine mI_of (cc := cX6_isNoCommit) (maxL := 2) (ret := (some .boolean)) (own := RX6) (by decide) rfl rfl (Nat.le_of_ble_eq_true rfl) ?_
  intro p e s m args below meth c A C hr hl hin
  refine v_iload_n C dX6_isNoCommit_0 rfl 1 rfl ?_
  refine v_iconst C (z := 0) dX6_isNoCommit_1 ?_
  refine v_aload_n C dX6_isNoCommit_2 rfl 0 rfl ?_
  refine v_get C 0 (kf := 2) rfl rfl (by decide) inX6_isNoCommit_6 lkX6_isNoCommit_13 rfl rfl dX6_isNoCommit_3 ?_
  refine v_iconst C (z := 1) dX6_isNoCommit_6 ?_
  refine v_isub C dX6_isNoCommit_7 ?_
  refine v_invSI C (As := [.int (iI ((i0 : Nat) : Int)), .int (iI (0)), .int (iI ((((cm : Nat) : Int)) - 1))]) (kX6_in_t l g  (x := ((i0 : Nat) : Int)) (y := 0) (z := (((cm : Nat) : Int)) - 1) ⟨by omega, by omega⟩ (b31_lit _ rfl) ⟨by omega, by omega⟩ (by omega) (by omega)) (cwS 3 C.2.2.2.2.1 gX6_isNoCommit_X6_in rfl rfl rfl (by decide +kernel) ⟨Nat.le_of_ble_eq_true rfl, Nat.le_of_ble_eq_true rfl⟩) [wMM g mm b1 b2 b3 b4 b5 b6 b7 b8 b9 b10 b11 b12 b13 b14 b15 b16 b17 kinds ni cm first second An An Tm Tm bc hds tgs qc qi qo qs cn vals Nw Nw Kw Kw cd] [] [0] [] (fun _ => [wMM g mm b1 b2 b3 b4 b5 b6 b7 b8 b9 b10 b11 b12 b13 b14 b15 b16 b17 kinds ni cm first second An An Tm Tm bc hds tgs qc qi qo qs cn vals Nw Nw Kw Kw cd]) (fun _ => wMM g mm b1 b2 b3 b4 b5 b6 b7 b8 b9 b10 b11 b12 b13 b14 b15 b16 b17 kinds ni cm first second An An Tm Tm bc hds tgs qc qi qo qs cn vals Nw Nw Kw Kw cd ++ ([])) rfl rfl rfl (fun _ => rfl) (fun _ => rfl) (fun _ => rfl) (fun _ => rfl) rfl rfl (Nat.le_of_ble_eq_true rfl) dX6_isNoCommit_8 ⟨by decide, by decide⟩ (fun r_2 _ h_1 => ?_)
  subst h_1
  refine v_ifz_ne C 18 dX6_isNoCommit_11 (by decide) (fun _ => ?_) (fun h => nomatch h) 
  refine v_iconst C (z := 0) dX6_isNoCommit_18 ?_
  exact (v_zret C hr hl () rfl (by decide) (by decide) rfl rfl dX6_isNoCommit_19)
set_option maxHeartbeats 4000000 in
set_option maxRecDepth 100000 in
theorem kX6_isNoCommit_out (l : Launch) (g : vG) {mm b1 b2 b3 b4 b5 b6 b7 b8 b9 b10 b11 b12 b13 b14 b15 b16 b17 : Nat} {kinds tgs first second vals qs : Nat → Int} {hds An qi qo Tm Nw Kw ris : Nat → Nat} {ni bc cm cn qc cd : Nat} {x : Int} (hx : b31 x) (h : ¬ (0 ≤ x ∧ x < ((cm : Nat) : Int))) (hb : cm ≤ 100) : mI l g yX6_isNoCommit wsX6_isNoCommit ({ frames := 1, cells := 0, slots := 0, locals := 22 }) [.ref (mm), .int (iI (x))] (wMM g mm b1 b2 b3 b4 b5 b6 b7 b8 b9 b10 b11 b12 b13 b14 b15 b16 b17 kinds ni cm first second An An Tm Tm bc hds tgs qc qi qo qs cn vals Nw Nw Kw Kw cd ++ ([])) (fun _ : Unit => wMM g mm b1 b2 b3 b4 b5 b6 b7 b8 b9 b10 b11 b12 b13 b14 b15 b16 b17 kinds ni cm first second An An Tm Tm bc hds tgs qc qi qo qs cn vals Nw Nw Kw Kw cd ++ ([])) (fun v _ => v = iI (bZ true)) 0 0 := by
  refine mI_of (cc := cX6_isNoCommit) (maxL := 2) (ret := (some .boolean)) (own := RX6) (by decide) rfl rfl (Nat.le_of_ble_eq_true rfl) ?_
  intro p e s m args below meth c A C hr hl hin
  have hx1 := hx.1
  have hx2 := hx.2
  refine v_iload_n C dX6_isNoCommit_0 rfl 1 rfl ?_
  refine v_iconst C (z := 0) dX6_isNoCommit_1 ?_
  refine v_aload_n C dX6_isNoCommit_2 rfl 0 rfl ?_
  refine v_get C 0 (kf := 2) rfl rfl (by decide) inX6_isNoCommit_6 lkX6_isNoCommit_13 rfl rfl dX6_isNoCommit_3 ?_
  refine v_iconst C (z := 1) dX6_isNoCommit_6 ?_
  refine v_isub C dX6_isNoCommit_7 ?_
  refine v_invSI C (As := [.int (iI (x)), .int (iI (0)), .int (iI ((((cm : Nat) : Int)) - 1))]) (kX6_in_f l g  (x := x) (y := 0) (z := (((cm : Nat) : Int)) - 1) ⟨by omega, by omega⟩ (b31_lit _ rfl) ⟨by omega, by omega⟩ (by omega)) (cwS 3 C.2.2.2.2.1 gX6_isNoCommit_X6_in rfl rfl rfl (by decide +kernel) ⟨Nat.le_of_ble_eq_true rfl, Nat.le_of_ble_eq_true rfl⟩) [wMM g mm b1 b2 b3 b4 b5 b6 b7 b8 b9 b10 b11 b12 b13 b14 b15 b16 b17 kinds ni cm first second An An Tm Tm bc hds tgs qc qi qo qs cn vals Nw Nw Kw Kw cd] [] [0] [] (fun _ => [wMM g mm b1 b2 b3 b4 b5 b6 b7 b8 b9 b10 b11 b12 b13 b14 b15 b16 b17 kinds ni cm first second An An Tm Tm bc hds tgs qc qi qo qs cn vals Nw Nw Kw Kw cd]) (fun _ => wMM g mm b1 b2 b3 b4 b5 b6 b7 b8 b9 b10 b11 b12 b13 b14 b15 b16 b17 kinds ni cm first second An An Tm Tm bc hds tgs qc qi qo qs cn vals Nw Nw Kw Kw cd ++ ([])) rfl rfl rfl (fun _ => rfl) (fun _ => rfl) (fun _ => rfl) (fun _ => rfl) rfl rfl (Nat.le_of_ble_eq_true rfl) dX6_isNoCommit_8 ⟨by decide, by decide⟩ (fun r_2 _ h_1 => ?_)
  subst h_1
  refine v_ifz_ne C 18 dX6_isNoCommit_11 (by decide) (fun h => nomatch h) (fun _ => ?_)
  refine v_iconst C (z := 1) dX6_isNoCommit_14 ?_
  refine v_goto C 19 dX6_isNoCommit_15 (by decide) ?_
  exact (v_zret C hr hl () rfl (by decide) (by decide) rfl rfl dX6_isNoCommit_19)
theorem inX6_isNoBranch_6 : ∀ w ∈ u_ws RX6 TX6 23, w ∈ wsX6_isNoBranch := by decide +kernel
theorem lkX6_isNoBranch_37 : Cond.fieldLink RX6 37 "MergeAtelierModel" "branches" "I" ∈ wsX6_isNoBranch := by decide +kernel
set_option maxHeartbeats 4000000 in
set_option maxRecDepth 100000 in
theorem kX6_isNoBranch_in (l : Launch) (g : vG) {mm b1 b2 b3 b4 b5 b6 b7 b8 b9 b10 b11 b12 b13 b14 b15 b16 b17 : Nat} {kinds tgs first second vals qs : Nat → Int} {hds An qi qo Tm Nw Kw ris : Nat → Nat} {ni bc cm cn qc cd : Nat} {i0 : Nat} (h : i0 < bc) (hb : bc ≤ 100) : mI l g yX6_isNoBranch wsX6_isNoBranch ({ frames := 1, cells := 0, slots := 0, locals := 22 }) [.ref (mm), .int (iI ((i0 : Nat) : Int))] (wMM g mm b1 b2 b3 b4 b5 b6 b7 b8 b9 b10 b11 b12 b13 b14 b15 b16 b17 kinds ni cm first second An An Tm Tm bc hds tgs qc qi qo qs cn vals Nw Nw Kw Kw cd ++ ([])) (fun _ : Unit => wMM g mm b1 b2 b3 b4 b5 b6 b7 b8 b9 b10 b11 b12 b13 b14 b15 b16 b17 kinds ni cm first second An An Tm Tm bc hds tgs qc qi qo qs cn vals Nw Nw Kw Kw cd ++ ([])) (fun v _ => v = iI (bZ false)) 0 0 := by
  refine mI_of (cc := cX6_isNoBranch) (maxL := 2) (ret := (some .boolean)) (own := RX6) (by decide) rfl rfl (Nat.le_of_ble_eq_true rfl) ?_
  intro p e s m args below meth c A C hr hl hin
  refine v_iload_n C dX6_isNoBranch_0 rfl 1 rfl ?_
  refine v_iconst C (z := 0) dX6_isNoBranch_1 ?_
  refine v_aload_n C dX6_isNoBranch_2 rfl 0 rfl ?_
  refine v_get C 0 (kf := 9) rfl rfl (by decide) inX6_isNoBranch_6 lkX6_isNoBranch_37 rfl rfl dX6_isNoBranch_3 ?_
  refine v_iconst C (z := 1) dX6_isNoBranch_6 ?_
  refine v_isub C dX6_isNoBranch_7 ?_
  refine v_invSI C (As := [.int (iI ((i0 : Nat) : Int)), .int (iI (0)), .int (iI ((((bc : Nat) : Int)) - 1))]) (kX6_in_t l g  (x := ((i0 : Nat) : Int)) (y := 0) (z := (((bc : Nat) : Int)) - 1) ⟨by omega, by omega⟩ (b31_lit _ rfl) ⟨by omega, by omega⟩ (by omega) (by omega)) (cwS 3 C.2.2.2.2.1 gX6_isNoBranch_X6_in rfl rfl rfl (by decide +kernel) ⟨Nat.le_of_ble_eq_true rfl, Nat.le_of_ble_eq_true rfl⟩) [wMM g mm b1 b2 b3 b4 b5 b6 b7 b8 b9 b10 b11 b12 b13 b14 b15 b16 b17 kinds ni cm first second An An Tm Tm bc hds tgs qc qi qo qs cn vals Nw Nw Kw Kw cd] [] [0] [] (fun _ => [wMM g mm b1 b2 b3 b4 b5 b6 b7 b8 b9 b10 b11 b12 b13 b14 b15 b16 b17 kinds ni cm first second An An Tm Tm bc hds tgs qc qi qo qs cn vals Nw Nw Kw Kw cd]) (fun _ => wMM g mm b1 b2 b3 b4 b5 b6 b7 b8 b9 b10 b11 b12 b13 b14 b15 b16 b17 kinds ni cm first second An An Tm Tm bc hds tgs qc qi qo qs cn vals Nw Nw Kw Kw cd ++ ([])) rfl rfl rfl (fun _ => rfl) (fun _ => rfl) (fun _ => rfl) (fun _ => rfl) rfl rfl (Nat.le_of_ble_eq_true rfl) dX6_isNoBranch_8 ⟨by decide, by decide⟩ (fun r_2 _ h_1 => ?_)
  subst h_1
  refine v_ifz_ne C 18 dX6_isNoBranch_11 (by decide) (fun _ => ?_) (fun h => nomatch h) 
  refine v_iconst C (z := 0) dX6_isNoBranch_18 ?_
  exact (v_zret C hr hl () rfl (by decide) (by decide) rfl rfl dX6_isNoBranch_19)
set_option maxHeartbeats 4000000 in
set_option maxRecDepth 100000 in
theorem kX6_isNoBranch_out (l : Launch) (g : vG) {mm b1 b2 b3 b4 b5 b6 b7 b8 b9 b10 b11 b12 b13 b14 b15 b16 b17 : Nat} {kinds tgs first second vals qs : Nat → Int} {hds An qi qo Tm Nw Kw ris : Nat → Nat} {ni bc cm cn qc cd : Nat} {x : Int} (hx : b31 x) (h : ¬ (0 ≤ x ∧ x < ((bc : Nat) : Int))) (hb : bc ≤ 100) : mI l g yX6_isNoBranch wsX6_isNoBranch ({ frames := 1, cells := 0, slots := 0, locals := 22 }) [.ref (mm), .int (iI (x))] (wMM g mm b1 b2 b3 b4 b5 b6 b7 b8 b9 b10 b11 b12 b13 b14 b15 b16 b17 kinds ni cm first second An An Tm Tm bc hds tgs qc qi qo qs cn vals Nw Nw Kw Kw cd ++ ([])) (fun _ : Unit => wMM g mm b1 b2 b3 b4 b5 b6 b7 b8 b9 b10 b11 b12 b13 b14 b15 b16 b17 kinds ni cm first second An An Tm Tm bc hds tgs qc qi qo qs cn vals Nw Nw Kw Kw cd ++ ([])) (fun v _ => v = iI (bZ true)) 0 0 := by
  refine mI_of (cc := cX6_isNoBranch) (maxL := 2) (ret := (some .boolean)) (own := RX6) (by decide) rfl rfl (Nat.le_of_ble_eq_true rfl) ?_
  intro p e s m args below meth c A C hr hl hin
  have hx1 := hx.1
  have hx2 := hx.2
  refine v_iload_n C dX6_isNoBranch_0 rfl 1 rfl ?_
  refine v_iconst C (z := 0) dX6_isNoBranch_1 ?_
  refine v_aload_n C dX6_isNoBranch_2 rfl 0 rfl ?_
  refine v_get C 0 (kf := 9) rfl rfl (by decide) inX6_isNoBranch_6 lkX6_isNoBranch_37 rfl rfl dX6_isNoBranch_3 ?_
  refine v_iconst C (z := 1) dX6_isNoBranch_6 ?_
  refine v_isub C dX6_isNoBranch_7 ?_
  refine v_invSI C (As := [.int (iI (x)), .int (iI (0)), .int (iI ((((bc : Nat) : Int)) - 1))]) (kX6_in_f l g  (x := x) (y := 0) (z := (((bc : Nat) : Int)) - 1) ⟨by omega, by omega⟩ (b31_lit _ rfl) ⟨by omega, by omega⟩ (by omega)) (cwS 3 C.2.2.2.2.1 gX6_isNoBranch_X6_in rfl rfl rfl (by decide +kernel) ⟨Nat.le_of_ble_eq_true rfl, Nat.le_of_ble_eq_true rfl⟩) [wMM g mm b1 b2 b3 b4 b5 b6 b7 b8 b9 b10 b11 b12 b13 b14 b15 b16 b17 kinds ni cm first second An An Tm Tm bc hds tgs qc qi qo qs cn vals Nw Nw Kw Kw cd] [] [0] [] (fun _ => [wMM g mm b1 b2 b3 b4 b5 b6 b7 b8 b9 b10 b11 b12 b13 b14 b15 b16 b17 kinds ni cm first second An An Tm Tm bc hds tgs qc qi qo qs cn vals Nw Nw Kw Kw cd]) (fun _ => wMM g mm b1 b2 b3 b4 b5 b6 b7 b8 b9 b10 b11 b12 b13 b14 b15 b16 b17 kinds ni cm first second An An Tm Tm bc hds tgs qc qi qo qs cn vals Nw Nw Kw Kw cd ++ ([])) rfl rfl rfl (fun _ => rfl) (fun _ => rfl) (fun _ => rfl) (fun _ => rfl) rfl rfl (Nat.le_of_ble_eq_true rfl) dX6_isNoBranch_8 ⟨by decide, by decide⟩ (fun r_2 _ h_1 => ?_)
  subst h_1
  refine v_ifz_ne C 18 dX6_isNoBranch_11 (by decide) (fun h => nomatch h) (fun _ => ?_)
  refine v_iconst C (z := 1) dX6_isNoBranch_14 ?_
  refine v_goto C 19 dX6_isNoBranch_15 (by decide) ?_
  exact (v_zret C hr hl () rfl (by decide) (by decide) rfl rfl dX6_isNoBranch_19)
set_option maxHeartbeats 4000000 in
set_option maxRecDepth 100000 in
theorem kX6_isNone_in (l : Launch) (g : vG) {mm b1 b2 b3 b4 b5 b6 b7 b8 b9 b10 b11 b12 b13 b14 b15 b16 b17 : Nat} {kinds tgs first second vals qs : Nat → Int} {hds An qi qo Tm Nw Kw ris : Nat → Nat} {ni bc cm cn qc cd : Nat} {i0 : Nat} (h : i0 < cm) (hb : cm ≤ 100) : mI l g yX6_isNone wsX6_isNone ({ frames := 2, cells := 0, slots := 0, locals := 43 }) [.ref (mm), .int (iI ((i0 : Nat) : Int))] (wMM g mm b1 b2 b3 b4 b5 b6 b7 b8 b9 b10 b11 b12 b13 b14 b15 b16 b17 kinds ni cm first second An An Tm Tm bc hds tgs qc qi qo qs cn vals Nw Nw Kw Kw cd ++ ([])) (fun _ : Unit => wMM g mm b1 b2 b3 b4 b5 b6 b7 b8 b9 b10 b11 b12 b13 b14 b15 b16 b17 kinds ni cm first second An An Tm Tm bc hds tgs qc qi qo qs cn vals Nw Nw Kw Kw 0 ++ ([])) (fun v _ => v = iI (bZ false)) 0 0 := by
  refine mI_of (cc := cX6_isNone) (maxL := 2) (ret := (some .boolean)) (own := RX6) (by decide) rfl rfl (Nat.le_of_ble_eq_true rfl) ?_
  intro p e s m args below meth c A C hr hl hin
  refine v_aload_n C dX6_isNone_0 rfl 0 rfl ?_
  refine v_aload_n C dX6_isNone_1 rfl 0 rfl ?_
  refine v_iload_n C dX6_isNone_2 rfl 1 rfl ?_
  refine v_invVI C (As := [.int (iI ((i0 : Nat) : Int))]) (q0 := 0) (ci := 6) (kX6_isNoCommit_in l g (mm := mm) (b1 := b1) (b2 := b2) (b3 := b3) (b4 := b4) (b5 := b5) (b6 := b6) (b7 := b7) (b8 := b8) (b9 := b9) (b10 := b10) (b11 := b11) (b12 := b12) (b13 := b13) (b14 := b14) (b15 := b15) (b16 := b16) (b17 := b17) (kinds := kinds) (tgs := tgs) (first := first) (second := second) (vals := vals) (qs := qs) (hds := hds) (An := An) (qi := qi) (qo := qo) (Tm := Tm) (Nw := Nw) (Kw := Kw) (ni := ni) (bc := bc) (cm := cm) (cn := cn) (qc := qc) (cd := cd) (ris := ris) (i0 := i0) (by omega) (by omega)) (cwV 1 C.2.2.2.2.1 gX6_isNone_X6_isNoCommit rfl rfl rfl (by decide +kernel) ⟨Nat.le_of_ble_eq_true rfl, Nat.le_of_ble_eq_true rfl⟩) [wMM g mm b1 b2 b3 b4 b5 b6 b7 b8 b9 b10 b11 b12 b13 b14 b15 b16 b17 kinds ni cm first second An An Tm Tm bc hds tgs qc qi qo qs cn vals Nw Nw Kw Kw cd] [0] [] [.ref (mm)] (fun _ => [wMM g mm b1 b2 b3 b4 b5 b6 b7 b8 b9 b10 b11 b12 b13 b14 b15 b16 b17 kinds ni cm first second An An Tm Tm bc hds tgs qc qi qo qs cn vals Nw Nw Kw Kw cd]) (fun _ => wMM g mm b1 b2 b3 b4 b5 b6 b7 b8 b9 b10 b11 b12 b13 b14 b15 b16 b17 kinds ni cm first second An An Tm Tm bc hds tgs qc qi qo qs cn vals Nw Nw Kw Kw cd ++ ([])) rfl rfl rfl (fun _ => rfl) (fun _ => rfl) (fun _ => rfl) (fun _ => rfl) rfl rfl rfl rfl rfl (Nat.le_of_ble_eq_true rfl) dX6_isNone_3 ⟨by decide, by decide⟩ (fun r_2 _ h_1 => ?_)
  subst h_1
  refine v_ifz_eq C 13 dX6_isNone_6 (by decide) (fun _ => ?_) (fun h => nomatch h) 
  refine v_iconst C (z := 0) dX6_isNone_13 ?_
  refine v_invVI C (As := [.int (iI (0))]) (q0 := 0) (ci := 6) (kX6_fails_z l g (mm := mm) (b1 := b1) (b2 := b2) (b3 := b3) (b4 := b4) (b5 := b5) (b6 := b6) (b7 := b7) (b8 := b8) (b9 := b9) (b10 := b10) (b11 := b11) (b12 := b12) (b13 := b13) (b14 := b14) (b15 := b15) (b16 := b16) (b17 := b17) (kinds := kinds) (tgs := tgs) (first := first) (second := second) (vals := vals) (qs := qs) (hds := hds) (An := An) (qi := qi) (qo := qo) (Tm := Tm) (Nw := Nw) (Kw := Kw) (ni := ni) (bc := bc) (cm := cm) (cn := cn) (qc := qc) (cd := cd) (ris := ris)  ) (cwV 1 C.2.2.2.2.1 gX6_isNone_X6_fails rfl rfl rfl (by decide +kernel) ⟨Nat.le_of_ble_eq_true rfl, Nat.le_of_ble_eq_true rfl⟩) [wMM g mm b1 b2 b3 b4 b5 b6 b7 b8 b9 b10 b11 b12 b13 b14 b15 b16 b17 kinds ni cm first second An An Tm Tm bc hds tgs qc qi qo qs cn vals Nw Nw Kw Kw cd] [0] [] [] (fun _ => [wMM g mm b1 b2 b3 b4 b5 b6 b7 b8 b9 b10 b11 b12 b13 b14 b15 b16 b17 kinds ni cm first second An An Tm Tm bc hds tgs qc qi qo qs cn vals Nw Nw Kw Kw 0]) (fun _ => wMM g mm b1 b2 b3 b4 b5 b6 b7 b8 b9 b10 b11 b12 b13 b14 b15 b16 b17 kinds ni cm first second An An Tm Tm bc hds tgs qc qi qo qs cn vals Nw Nw Kw Kw 0 ++ ([])) rfl rfl rfl (fun _ => rfl) (fun _ => rfl) (fun _ => rfl) (fun _ => rfl) rfl rfl rfl rfl rfl (Nat.le_of_ble_eq_true rfl) dX6_isNone_14 ⟨by decide, by decide⟩ (fun r_4 _ h_3 => ?_)
  subst h_3
  exact (v_zret C hr hl () (bZ_nar _) (by decide) (by decide) rfl rfl dX6_isNone_17)
set_option maxHeartbeats 4000000 in
set_option maxRecDepth 100000 in
theorem kX6_isNone_out (l : Launch) (g : vG) {mm b1 b2 b3 b4 b5 b6 b7 b8 b9 b10 b11 b12 b13 b14 b15 b16 b17 : Nat} {kinds tgs first second vals qs : Nat → Int} {hds An qi qo Tm Nw Kw ris : Nat → Nat} {ni bc cm cn qc cd : Nat} {x : Int} (hx : b31 x) (h : ¬ (0 ≤ x ∧ x < ((cm : Nat) : Int))) (hb : cm ≤ 100) : mI l g yX6_isNone wsX6_isNone ({ frames := 2, cells := 0, slots := 0, locals := 43 }) [.ref (mm), .int (iI (x))] (wMM g mm b1 b2 b3 b4 b5 b6 b7 b8 b9 b10 b11 b12 b13 b14 b15 b16 b17 kinds ni cm first second An An Tm Tm bc hds tgs qc qi qo qs cn vals Nw Nw Kw Kw cd ++ ([])) (fun _ : Unit => wMM g mm b1 b2 b3 b4 b5 b6 b7 b8 b9 b10 b11 b12 b13 b14 b15 b16 b17 kinds ni cm first second An An Tm Tm bc hds tgs qc qi qo qs cn vals Nw Nw Kw Kw 1 ++ ([])) (fun v _ => v = iI (bZ true)) 0 0 := by
  refine mI_of (cc := cX6_isNone) (maxL := 2) (ret := (some .boolean)) (own := RX6) (by decide) rfl rfl (Nat.le_of_ble_eq_true rfl) ?_
  intro p e s m args below meth c A C hr hl hin
  have hx1 := hx.1
  have hx2 := hx.2
  refine v_aload_n C dX6_isNone_0 rfl 0 rfl ?_
  refine v_aload_n C dX6_isNone_1 rfl 0 rfl ?_
  refine v_iload_n C dX6_isNone_2 rfl 1 rfl ?_
  refine v_invVI C (As := [.int (iI (x))]) (q0 := 0) (ci := 6) (kX6_isNoCommit_out l g (mm := mm) (b1 := b1) (b2 := b2) (b3 := b3) (b4 := b4) (b5 := b5) (b6 := b6) (b7 := b7) (b8 := b8) (b9 := b9) (b10 := b10) (b11 := b11) (b12 := b12) (b13 := b13) (b14 := b14) (b15 := b15) (b16 := b16) (b17 := b17) (kinds := kinds) (tgs := tgs) (first := first) (second := second) (vals := vals) (qs := qs) (hds := hds) (An := An) (qi := qi) (qo := qo) (Tm := Tm) (Nw := Nw) (Kw := Kw) (ni := ni) (bc := bc) (cm := cm) (cn := cn) (qc := qc) (cd := cd) (ris := ris) (x := x) ⟨by omega, by omega⟩ (by omega) (by omega)) (cwV 1 C.2.2.2.2.1 gX6_isNone_X6_isNoCommit rfl rfl rfl (by decide +kernel) ⟨Nat.le_of_ble_eq_true rfl, Nat.le_of_ble_eq_true rfl⟩) [wMM g mm b1 b2 b3 b4 b5 b6 b7 b8 b9 b10 b11 b12 b13 b14 b15 b16 b17 kinds ni cm first second An An Tm Tm bc hds tgs qc qi qo qs cn vals Nw Nw Kw Kw cd] [0] [] [.ref (mm)] (fun _ => [wMM g mm b1 b2 b3 b4 b5 b6 b7 b8 b9 b10 b11 b12 b13 b14 b15 b16 b17 kinds ni cm first second An An Tm Tm bc hds tgs qc qi qo qs cn vals Nw Nw Kw Kw cd]) (fun _ => wMM g mm b1 b2 b3 b4 b5 b6 b7 b8 b9 b10 b11 b12 b13 b14 b15 b16 b17 kinds ni cm first second An An Tm Tm bc hds tgs qc qi qo qs cn vals Nw Nw Kw Kw cd ++ ([])) rfl rfl rfl (fun _ => rfl) (fun _ => rfl) (fun _ => rfl) (fun _ => rfl) rfl rfl rfl rfl rfl (Nat.le_of_ble_eq_true rfl) dX6_isNone_3 ⟨by decide, by decide⟩ (fun r_2 _ h_1 => ?_)
  subst h_1
  refine v_ifz_eq C 13 dX6_isNone_6 (by decide) (fun h => nomatch h) (fun _ => ?_)
  refine v_iconst C (z := 1) dX6_isNone_9 ?_
  refine v_goto C 14 dX6_isNone_10 (by decide) ?_
  refine v_invVI C (As := [.int (iI (1))]) (q0 := 0) (ci := 6) (kX6_fails_p l g (mm := mm) (b1 := b1) (b2 := b2) (b3 := b3) (b4 := b4) (b5 := b5) (b6 := b6) (b7 := b7) (b8 := b8) (b9 := b9) (b10 := b10) (b11 := b11) (b12 := b12) (b13 := b13) (b14 := b14) (b15 := b15) (b16 := b16) (b17 := b17) (kinds := kinds) (tgs := tgs) (first := first) (second := second) (vals := vals) (qs := qs) (hds := hds) (An := An) (qi := qi) (qo := qo) (Tm := Tm) (Nw := Nw) (Kw := Kw) (ni := ni) (bc := bc) (cm := cm) (cn := cn) (qc := qc) (cd := cd) (ris := ris) (q := 1) (by decide)) (cwV 1 C.2.2.2.2.1 gX6_isNone_X6_fails rfl rfl rfl (by decide +kernel) ⟨Nat.le_of_ble_eq_true rfl, Nat.le_of_ble_eq_true rfl⟩) [wMM g mm b1 b2 b3 b4 b5 b6 b7 b8 b9 b10 b11 b12 b13 b14 b15 b16 b17 kinds ni cm first second An An Tm Tm bc hds tgs qc qi qo qs cn vals Nw Nw Kw Kw cd] [0] [] [] (fun _ => [wMM g mm b1 b2 b3 b4 b5 b6 b7 b8 b9 b10 b11 b12 b13 b14 b15 b16 b17 kinds ni cm first second An An Tm Tm bc hds tgs qc qi qo qs cn vals Nw Nw Kw Kw 1]) (fun _ => wMM g mm b1 b2 b3 b4 b5 b6 b7 b8 b9 b10 b11 b12 b13 b14 b15 b16 b17 kinds ni cm first second An An Tm Tm bc hds tgs qc qi qo qs cn vals Nw Nw Kw Kw 1 ++ ([])) rfl rfl rfl (fun _ => rfl) (fun _ => rfl) (fun _ => rfl) (fun _ => rfl) rfl rfl rfl rfl rfl (Nat.le_of_ble_eq_true rfl) dX6_isNone_14 ⟨by decide, by decide⟩ (fun r_4 _ h_3 => ?_)
  subst h_3
  exact (v_zret C hr hl () (bZ_nar _) (by decide) (by decide) rfl rfl dX6_isNone_17)
set_option maxHeartbeats 4000000 in
set_option maxRecDepth 100000 in
theorem kX6_isNowhere_in (l : Launch) (g : vG) {mm b1 b2 b3 b4 b5 b6 b7 b8 b9 b10 b11 b12 b13 b14 b15 b16 b17 : Nat} {kinds tgs first second vals qs : Nat → Int} {hds An qi qo Tm Nw Kw ris : Nat → Nat} {ni bc cm cn qc cd : Nat} {i0 j0 : Nat} (h1 : i0 < bc) (h2 : j0 < ni) (hb1 : bc ≤ 100) (hb2 : ni ≤ 100) : mI l g yX6_isNowhere wsX6_isNowhere ({ frames := 2, cells := 0, slots := 0, locals := 43 }) [.ref (mm), .int (iI ((i0 : Nat) : Int)), .int (iI ((j0 : Nat) : Int))] (wMM g mm b1 b2 b3 b4 b5 b6 b7 b8 b9 b10 b11 b12 b13 b14 b15 b16 b17 kinds ni cm first second An An Tm Tm bc hds tgs qc qi qo qs cn vals Nw Nw Kw Kw cd ++ ([])) (fun _ : Unit => wMM g mm b1 b2 b3 b4 b5 b6 b7 b8 b9 b10 b11 b12 b13 b14 b15 b16 b17 kinds ni cm first second An An Tm Tm bc hds tgs qc qi qo qs cn vals Nw Nw Kw Kw 0 ++ ([])) (fun v _ => v = iI (bZ false)) 0 0 := by
  refine mI_of (cc := cX6_isNowhere) (maxL := 3) (ret := (some .boolean)) (own := RX6) (by decide) rfl rfl (Nat.le_of_ble_eq_true rfl) ?_
  intro p e s m args below meth c A C hr hl hin
  refine v_aload_n C dX6_isNowhere_0 rfl 0 rfl ?_
  refine v_aload_n C dX6_isNowhere_1 rfl 0 rfl ?_
  refine v_iload_n C dX6_isNowhere_2 rfl 1 rfl ?_
  refine v_invVI C (As := [.int (iI ((i0 : Nat) : Int))]) (q0 := 0) (ci := 6) (kX6_isNoBranch_in l g (mm := mm) (b1 := b1) (b2 := b2) (b3 := b3) (b4 := b4) (b5 := b5) (b6 := b6) (b7 := b7) (b8 := b8) (b9 := b9) (b10 := b10) (b11 := b11) (b12 := b12) (b13 := b13) (b14 := b14) (b15 := b15) (b16 := b16) (b17 := b17) (kinds := kinds) (tgs := tgs) (first := first) (second := second) (vals := vals) (qs := qs) (hds := hds) (An := An) (qi := qi) (qo := qo) (Tm := Tm) (Nw := Nw) (Kw := Kw) (ni := ni) (bc := bc) (cm := cm) (cn := cn) (qc := qc) (cd := cd) (ris := ris) (i0 := i0) (by omega) (by omega)) (cwV 1 C.2.2.2.2.1 gX6_isNowhere_X6_isNoBranch rfl rfl rfl (by decide +kernel) ⟨Nat.le_of_ble_eq_true rfl, Nat.le_of_ble_eq_true rfl⟩) [wMM g mm b1 b2 b3 b4 b5 b6 b7 b8 b9 b10 b11 b12 b13 b14 b15 b16 b17 kinds ni cm first second An An Tm Tm bc hds tgs qc qi qo qs cn vals Nw Nw Kw Kw cd] [0] [] [.ref (mm)] (fun _ => [wMM g mm b1 b2 b3 b4 b5 b6 b7 b8 b9 b10 b11 b12 b13 b14 b15 b16 b17 kinds ni cm first second An An Tm Tm bc hds tgs qc qi qo qs cn vals Nw Nw Kw Kw cd]) (fun _ => wMM g mm b1 b2 b3 b4 b5 b6 b7 b8 b9 b10 b11 b12 b13 b14 b15 b16 b17 kinds ni cm first second An An Tm Tm bc hds tgs qc qi qo qs cn vals Nw Nw Kw Kw cd ++ ([])) rfl rfl rfl (fun _ => rfl) (fun _ => rfl) (fun _ => rfl) (fun _ => rfl) rfl rfl rfl rfl rfl (Nat.le_of_ble_eq_true rfl) dX6_isNowhere_3 ⟨by decide, by decide⟩ (fun r_2 _ h_1 => ?_)
  subst h_1
  refine v_ifz_ne C 17 dX6_isNowhere_6 (by decide) (fun h => nomatch h) (fun _ => ?_)
  refine v_aload_n C dX6_isNowhere_9 rfl 0 rfl ?_
  refine v_iload_n C dX6_isNowhere_10 rfl 2 rfl ?_
  refine v_invVI C (As := [.int (iI ((j0 : Nat) : Int))]) (q0 := 0) (ci := 6) (kX6_isNoItem_in l g (mm := mm) (b1 := b1) (b2 := b2) (b3 := b3) (b4 := b4) (b5 := b5) (b6 := b6) (b7 := b7) (b8 := b8) (b9 := b9) (b10 := b10) (b11 := b11) (b12 := b12) (b13 := b13) (b14 := b14) (b15 := b15) (b16 := b16) (b17 := b17) (kinds := kinds) (tgs := tgs) (first := first) (second := second) (vals := vals) (qs := qs) (hds := hds) (An := An) (qi := qi) (qo := qo) (Tm := Tm) (Nw := Nw) (Kw := Kw) (ni := ni) (bc := bc) (cm := cm) (cn := cn) (qc := qc) (cd := cd) (ris := ris) (i0 := j0) (by omega) (by omega)) (cwV 1 C.2.2.2.2.1 gX6_isNowhere_X6_isNoItem rfl rfl rfl (by decide +kernel) ⟨Nat.le_of_ble_eq_true rfl, Nat.le_of_ble_eq_true rfl⟩) [wMM g mm b1 b2 b3 b4 b5 b6 b7 b8 b9 b10 b11 b12 b13 b14 b15 b16 b17 kinds ni cm first second An An Tm Tm bc hds tgs qc qi qo qs cn vals Nw Nw Kw Kw cd] [0] [] [.ref (mm)] (fun _ => [wMM g mm b1 b2 b3 b4 b5 b6 b7 b8 b9 b10 b11 b12 b13 b14 b15 b16 b17 kinds ni cm first second An An Tm Tm bc hds tgs qc qi qo qs cn vals Nw Nw Kw Kw cd]) (fun _ => wMM g mm b1 b2 b3 b4 b5 b6 b7 b8 b9 b10 b11 b12 b13 b14 b15 b16 b17 kinds ni cm first second An An Tm Tm bc hds tgs qc qi qo qs cn vals Nw Nw Kw Kw cd ++ ([])) rfl rfl rfl (fun _ => rfl) (fun _ => rfl) (fun _ => rfl) (fun _ => rfl) rfl rfl rfl rfl rfl (Nat.le_of_ble_eq_true rfl) dX6_isNowhere_11 ⟨by decide, by decide⟩ (fun r_4 _ h_3 => ?_)
  subst h_3
  refine v_ifz_eq C 21 dX6_isNowhere_14 (by decide) (fun _ => ?_) (fun h => nomatch h) 
  refine v_iconst C (z := 0) dX6_isNowhere_21 ?_
  refine v_invVI C (As := [.int (iI (0))]) (q0 := 0) (ci := 6) (kX6_fails_z l g (mm := mm) (b1 := b1) (b2 := b2) (b3 := b3) (b4 := b4) (b5 := b5) (b6 := b6) (b7 := b7) (b8 := b8) (b9 := b9) (b10 := b10) (b11 := b11) (b12 := b12) (b13 := b13) (b14 := b14) (b15 := b15) (b16 := b16) (b17 := b17) (kinds := kinds) (tgs := tgs) (first := first) (second := second) (vals := vals) (qs := qs) (hds := hds) (An := An) (qi := qi) (qo := qo) (Tm := Tm) (Nw := Nw) (Kw := Kw) (ni := ni) (bc := bc) (cm := cm) (cn := cn) (qc := qc) (cd := cd) (ris := ris)  ) (cwV 1 C.2.2.2.2.1 gX6_isNowhere_X6_fails rfl rfl rfl (by decide +kernel) ⟨Nat.le_of_ble_eq_true rfl, Nat.le_of_ble_eq_true rfl⟩) [wMM g mm b1 b2 b3 b4 b5 b6 b7 b8 b9 b10 b11 b12 b13 b14 b15 b16 b17 kinds ni cm first second An An Tm Tm bc hds tgs qc qi qo qs cn vals Nw Nw Kw Kw cd] [0] [] [] (fun _ => [wMM g mm b1 b2 b3 b4 b5 b6 b7 b8 b9 b10 b11 b12 b13 b14 b15 b16 b17 kinds ni cm first second An An Tm Tm bc hds tgs qc qi qo qs cn vals Nw Nw Kw Kw 0]) (fun _ => wMM g mm b1 b2 b3 b4 b5 b6 b7 b8 b9 b10 b11 b12 b13 b14 b15 b16 b17 kinds ni cm first second An An Tm Tm bc hds tgs qc qi qo qs cn vals Nw Nw Kw Kw 0 ++ ([])) rfl rfl rfl (fun _ => rfl) (fun _ => rfl) (fun _ => rfl) (fun _ => rfl) rfl rfl rfl rfl rfl (Nat.le_of_ble_eq_true rfl) dX6_isNowhere_22 ⟨by decide, by decide⟩ (fun r_6 _ h_5 => ?_)
  subst h_5
  exact (v_zret C hr hl () (bZ_nar _) (by decide) (by decide) rfl rfl dX6_isNowhere_25)
set_option maxHeartbeats 4000000 in
set_option maxRecDepth 100000 in
theorem kX6_isNowhere_a (l : Launch) (g : vG) {mm b1 b2 b3 b4 b5 b6 b7 b8 b9 b10 b11 b12 b13 b14 b15 b16 b17 : Nat} {kinds tgs first second vals qs : Nat → Int} {hds An qi qo Tm Nw Kw ris : Nat → Nat} {ni bc cm cn qc cd : Nat} {x y : Int} (hx : b31 x) (h1 : ¬ (0 ≤ x ∧ x < ((bc : Nat) : Int))) (hb1 : bc ≤ 100) (hb2 : ni ≤ 100) : mI l g yX6_isNowhere wsX6_isNowhere ({ frames := 2, cells := 0, slots := 0, locals := 43 }) [.ref (mm), .int (iI (x)), .int (iI (y))] (wMM g mm b1 b2 b3 b4 b5 b6 b7 b8 b9 b10 b11 b12 b13 b14 b15 b16 b17 kinds ni cm first second An An Tm Tm bc hds tgs qc qi qo qs cn vals Nw Nw Kw Kw cd ++ ([])) (fun _ : Unit => wMM g mm b1 b2 b3 b4 b5 b6 b7 b8 b9 b10 b11 b12 b13 b14 b15 b16 b17 kinds ni cm first second An An Tm Tm bc hds tgs qc qi qo qs cn vals Nw Nw Kw Kw 1 ++ ([])) (fun v _ => v = iI (bZ true)) 0 0 := by
  refine mI_of (cc := cX6_isNowhere) (maxL := 3) (ret := (some .boolean)) (own := RX6) (by decide) rfl rfl (Nat.le_of_ble_eq_true rfl) ?_
  intro p e s m args below meth c A C hr hl hin
  have hx1 := hx.1
  have hx2 := hx.2
  refine v_aload_n C dX6_isNowhere_0 rfl 0 rfl ?_
  refine v_aload_n C dX6_isNowhere_1 rfl 0 rfl ?_
  refine v_iload_n C dX6_isNowhere_2 rfl 1 rfl ?_
  refine v_invVI C (As := [.int (iI (x))]) (q0 := 0) (ci := 6) (kX6_isNoBranch_out l g (mm := mm) (b1 := b1) (b2 := b2) (b3 := b3) (b4 := b4) (b5 := b5) (b6 := b6) (b7 := b7) (b8 := b8) (b9 := b9) (b10 := b10) (b11 := b11) (b12 := b12) (b13 := b13) (b14 := b14) (b15 := b15) (b16 := b16) (b17 := b17) (kinds := kinds) (tgs := tgs) (first := first) (second := second) (vals := vals) (qs := qs) (hds := hds) (An := An) (qi := qi) (qo := qo) (Tm := Tm) (Nw := Nw) (Kw := Kw) (ni := ni) (bc := bc) (cm := cm) (cn := cn) (qc := qc) (cd := cd) (ris := ris) (x := x) ⟨by omega, by omega⟩ (by omega) (by omega)) (cwV 1 C.2.2.2.2.1 gX6_isNowhere_X6_isNoBranch rfl rfl rfl (by decide +kernel) ⟨Nat.le_of_ble_eq_true rfl, Nat.le_of_ble_eq_true rfl⟩) [wMM g mm b1 b2 b3 b4 b5 b6 b7 b8 b9 b10 b11 b12 b13 b14 b15 b16 b17 kinds ni cm first second An An Tm Tm bc hds tgs qc qi qo qs cn vals Nw Nw Kw Kw cd] [0] [] [.ref (mm)] (fun _ => [wMM g mm b1 b2 b3 b4 b5 b6 b7 b8 b9 b10 b11 b12 b13 b14 b15 b16 b17 kinds ni cm first second An An Tm Tm bc hds tgs qc qi qo qs cn vals Nw Nw Kw Kw cd]) (fun _ => wMM g mm b1 b2 b3 b4 b5 b6 b7 b8 b9 b10 b11 b12 b13 b14 b15 b16 b17 kinds ni cm first second An An Tm Tm bc hds tgs qc qi qo qs cn vals Nw Nw Kw Kw cd ++ ([])) rfl rfl rfl (fun _ => rfl) (fun _ => rfl) (fun _ => rfl) (fun _ => rfl) rfl rfl rfl rfl rfl (Nat.le_of_ble_eq_true rfl) dX6_isNowhere_3 ⟨by decide, by decide⟩ (fun r_2 _ h_1 => ?_)
  subst h_1
  refine v_ifz_ne C 17 dX6_isNowhere_6 (by decide) (fun _ => ?_) (fun h => nomatch h) 
  refine v_iconst C (z := 1) dX6_isNowhere_17 ?_
  refine v_goto C 22 dX6_isNowhere_18 (by decide) ?_
  refine v_invVI C (As := [.int (iI (1))]) (q0 := 0) (ci := 6) (kX6_fails_p l g (mm := mm) (b1 := b1) (b2 := b2) (b3 := b3) (b4 := b4) (b5 := b5) (b6 := b6) (b7 := b7) (b8 := b8) (b9 := b9) (b10 := b10) (b11 := b11) (b12 := b12) (b13 := b13) (b14 := b14) (b15 := b15) (b16 := b16) (b17 := b17) (kinds := kinds) (tgs := tgs) (first := first) (second := second) (vals := vals) (qs := qs) (hds := hds) (An := An) (qi := qi) (qo := qo) (Tm := Tm) (Nw := Nw) (Kw := Kw) (ni := ni) (bc := bc) (cm := cm) (cn := cn) (qc := qc) (cd := cd) (ris := ris) (q := 1) (by decide)) (cwV 1 C.2.2.2.2.1 gX6_isNowhere_X6_fails rfl rfl rfl (by decide +kernel) ⟨Nat.le_of_ble_eq_true rfl, Nat.le_of_ble_eq_true rfl⟩) [wMM g mm b1 b2 b3 b4 b5 b6 b7 b8 b9 b10 b11 b12 b13 b14 b15 b16 b17 kinds ni cm first second An An Tm Tm bc hds tgs qc qi qo qs cn vals Nw Nw Kw Kw cd] [0] [] [] (fun _ => [wMM g mm b1 b2 b3 b4 b5 b6 b7 b8 b9 b10 b11 b12 b13 b14 b15 b16 b17 kinds ni cm first second An An Tm Tm bc hds tgs qc qi qo qs cn vals Nw Nw Kw Kw 1]) (fun _ => wMM g mm b1 b2 b3 b4 b5 b6 b7 b8 b9 b10 b11 b12 b13 b14 b15 b16 b17 kinds ni cm first second An An Tm Tm bc hds tgs qc qi qo qs cn vals Nw Nw Kw Kw 1 ++ ([])) rfl rfl rfl (fun _ => rfl) (fun _ => rfl) (fun _ => rfl) (fun _ => rfl) rfl rfl rfl rfl rfl (Nat.le_of_ble_eq_true rfl) dX6_isNowhere_22 ⟨by decide, by decide⟩ (fun r_4 _ h_3 => ?_)
  subst h_3
  exact (v_zret C hr hl () (bZ_nar _) (by decide) (by decide) rfl rfl dX6_isNowhere_25)
set_option maxHeartbeats 4000000 in
set_option maxRecDepth 100000 in
theorem kX6_isNowhere_b (l : Launch) (g : vG) {mm b1 b2 b3 b4 b5 b6 b7 b8 b9 b10 b11 b12 b13 b14 b15 b16 b17 : Nat} {kinds tgs first second vals qs : Nat → Int} {hds An qi qo Tm Nw Kw ris : Nat → Nat} {ni bc cm cn qc cd : Nat} {i0 : Nat} {y : Int} (h1 : i0 < bc) (hy : b31 y) (h2 : ¬ (0 ≤ y ∧ y < ((ni : Nat) : Int))) (hb1 : bc ≤ 100) (hb2 : ni ≤ 100) : mI l g yX6_isNowhere wsX6_isNowhere ({ frames := 2, cells := 0, slots := 0, locals := 43 }) [.ref (mm), .int (iI ((i0 : Nat) : Int)), .int (iI (y))] (wMM g mm b1 b2 b3 b4 b5 b6 b7 b8 b9 b10 b11 b12 b13 b14 b15 b16 b17 kinds ni cm first second An An Tm Tm bc hds tgs qc qi qo qs cn vals Nw Nw Kw Kw cd ++ ([])) (fun _ : Unit => wMM g mm b1 b2 b3 b4 b5 b6 b7 b8 b9 b10 b11 b12 b13 b14 b15 b16 b17 kinds ni cm first second An An Tm Tm bc hds tgs qc qi qo qs cn vals Nw Nw Kw Kw 1 ++ ([])) (fun v _ => v = iI (bZ true)) 0 0 := by
  refine mI_of (cc := cX6_isNowhere) (maxL := 3) (ret := (some .boolean)) (own := RX6) (by decide) rfl rfl (Nat.le_of_ble_eq_true rfl) ?_
  intro p e s m args below meth c A C hr hl hin
  have hy1 := hy.1
  have hy2 := hy.2
  refine v_aload_n C dX6_isNowhere_0 rfl 0 rfl ?_
  refine v_aload_n C dX6_isNowhere_1 rfl 0 rfl ?_
  refine v_iload_n C dX6_isNowhere_2 rfl 1 rfl ?_
  refine v_invVI C (As := [.int (iI ((i0 : Nat) : Int))]) (q0 := 0) (ci := 6) (kX6_isNoBranch_in l g (mm := mm) (b1 := b1) (b2 := b2) (b3 := b3) (b4 := b4) (b5 := b5) (b6 := b6) (b7 := b7) (b8 := b8) (b9 := b9) (b10 := b10) (b11 := b11) (b12 := b12) (b13 := b13) (b14 := b14) (b15 := b15) (b16 := b16) (b17 := b17) (kinds := kinds) (tgs := tgs) (first := first) (second := second) (vals := vals) (qs := qs) (hds := hds) (An := An) (qi := qi) (qo := qo) (Tm := Tm) (Nw := Nw) (Kw := Kw) (ni := ni) (bc := bc) (cm := cm) (cn := cn) (qc := qc) (cd := cd) (ris := ris) (i0 := i0) (by omega) (by omega)) (cwV 1 C.2.2.2.2.1 gX6_isNowhere_X6_isNoBranch rfl rfl rfl (by decide +kernel) ⟨Nat.le_of_ble_eq_true rfl, Nat.le_of_ble_eq_true rfl⟩) [wMM g mm b1 b2 b3 b4 b5 b6 b7 b8 b9 b10 b11 b12 b13 b14 b15 b16 b17 kinds ni cm first second An An Tm Tm bc hds tgs qc qi qo qs cn vals Nw Nw Kw Kw cd] [0] [] [.ref (mm)] (fun _ => [wMM g mm b1 b2 b3 b4 b5 b6 b7 b8 b9 b10 b11 b12 b13 b14 b15 b16 b17 kinds ni cm first second An An Tm Tm bc hds tgs qc qi qo qs cn vals Nw Nw Kw Kw cd]) (fun _ => wMM g mm b1 b2 b3 b4 b5 b6 b7 b8 b9 b10 b11 b12 b13 b14 b15 b16 b17 kinds ni cm first second An An Tm Tm bc hds tgs qc qi qo qs cn vals Nw Nw Kw Kw cd ++ ([])) rfl rfl rfl (fun _ => rfl) (fun _ => rfl) (fun _ => rfl) (fun _ => rfl) rfl rfl rfl rfl rfl (Nat.le_of_ble_eq_true rfl) dX6_isNowhere_3 ⟨by decide, by decide⟩ (fun r_2 _ h_1 => ?_)
  subst h_1
  refine v_ifz_ne C 17 dX6_isNowhere_6 (by decide) (fun h => nomatch h) (fun _ => ?_)
  refine v_aload_n C dX6_isNowhere_9 rfl 0 rfl ?_
  refine v_iload_n C dX6_isNowhere_10 rfl 2 rfl ?_
  refine v_invVI C (As := [.int (iI (y))]) (q0 := 0) (ci := 6) (kX6_isNoItem_out l g (mm := mm) (b1 := b1) (b2 := b2) (b3 := b3) (b4 := b4) (b5 := b5) (b6 := b6) (b7 := b7) (b8 := b8) (b9 := b9) (b10 := b10) (b11 := b11) (b12 := b12) (b13 := b13) (b14 := b14) (b15 := b15) (b16 := b16) (b17 := b17) (kinds := kinds) (tgs := tgs) (first := first) (second := second) (vals := vals) (qs := qs) (hds := hds) (An := An) (qi := qi) (qo := qo) (Tm := Tm) (Nw := Nw) (Kw := Kw) (ni := ni) (bc := bc) (cm := cm) (cn := cn) (qc := qc) (cd := cd) (ris := ris) (x := y) ⟨by omega, by omega⟩ (by omega) (by omega)) (cwV 1 C.2.2.2.2.1 gX6_isNowhere_X6_isNoItem rfl rfl rfl (by decide +kernel) ⟨Nat.le_of_ble_eq_true rfl, Nat.le_of_ble_eq_true rfl⟩) [wMM g mm b1 b2 b3 b4 b5 b6 b7 b8 b9 b10 b11 b12 b13 b14 b15 b16 b17 kinds ni cm first second An An Tm Tm bc hds tgs qc qi qo qs cn vals Nw Nw Kw Kw cd] [0] [] [.ref (mm)] (fun _ => [wMM g mm b1 b2 b3 b4 b5 b6 b7 b8 b9 b10 b11 b12 b13 b14 b15 b16 b17 kinds ni cm first second An An Tm Tm bc hds tgs qc qi qo qs cn vals Nw Nw Kw Kw cd]) (fun _ => wMM g mm b1 b2 b3 b4 b5 b6 b7 b8 b9 b10 b11 b12 b13 b14 b15 b16 b17 kinds ni cm first second An An Tm Tm bc hds tgs qc qi qo qs cn vals Nw Nw Kw Kw cd ++ ([])) rfl rfl rfl (fun _ => rfl) (fun _ => rfl) (fun _ => rfl) (fun _ => rfl) rfl rfl rfl rfl rfl (Nat.le_of_ble_eq_true rfl) dX6_isNowhere_11 ⟨by decide, by decide⟩ (fun r_4 _ h_3 => ?_)
  subst h_3
  refine v_ifz_eq C 21 dX6_isNowhere_14 (by decide) (fun h => nomatch h) (fun _ => ?_)
  refine v_iconst C (z := 1) dX6_isNowhere_17 ?_
  refine v_goto C 22 dX6_isNowhere_18 (by decide) ?_
  refine v_invVI C (As := [.int (iI (1))]) (q0 := 0) (ci := 6) (kX6_fails_p l g (mm := mm) (b1 := b1) (b2 := b2) (b3 := b3) (b4 := b4) (b5 := b5) (b6 := b6) (b7 := b7) (b8 := b8) (b9 := b9) (b10 := b10) (b11 := b11) (b12 := b12) (b13 := b13) (b14 := b14) (b15 := b15) (b16 := b16) (b17 := b17) (kinds := kinds) (tgs := tgs) (first := first) (second := second) (vals := vals) (qs := qs) (hds := hds) (An := An) (qi := qi) (qo := qo) (Tm := Tm) (Nw := Nw) (Kw := Kw) (ni := ni) (bc := bc) (cm := cm) (cn := cn) (qc := qc) (cd := cd) (ris := ris) (q := 1) (by decide)) (cwV 1 C.2.2.2.2.1 gX6_isNowhere_X6_fails rfl rfl rfl (by decide +kernel) ⟨Nat.le_of_ble_eq_true rfl, Nat.le_of_ble_eq_true rfl⟩) [wMM g mm b1 b2 b3 b4 b5 b6 b7 b8 b9 b10 b11 b12 b13 b14 b15 b16 b17 kinds ni cm first second An An Tm Tm bc hds tgs qc qi qo qs cn vals Nw Nw Kw Kw cd] [0] [] [] (fun _ => [wMM g mm b1 b2 b3 b4 b5 b6 b7 b8 b9 b10 b11 b12 b13 b14 b15 b16 b17 kinds ni cm first second An An Tm Tm bc hds tgs qc qi qo qs cn vals Nw Nw Kw Kw 1]) (fun _ => wMM g mm b1 b2 b3 b4 b5 b6 b7 b8 b9 b10 b11 b12 b13 b14 b15 b16 b17 kinds ni cm first second An An Tm Tm bc hds tgs qc qi qo qs cn vals Nw Nw Kw Kw 1 ++ ([])) rfl rfl rfl (fun _ => rfl) (fun _ => rfl) (fun _ => rfl) (fun _ => rfl) rfl rfl rfl rfl rfl (Nat.le_of_ble_eq_true rfl) dX6_isNowhere_22 ⟨by decide, by decide⟩ (fun r_6 _ h_5 => ?_)
  subst h_5
  exact (v_zret C hr hl () (bZ_nar _) (by decide) (by decide) rfl rfl dX6_isNowhere_25)
set_option maxHeartbeats 4000000 in
set_option maxRecDepth 100000 in
theorem kX6_isNoPair_in (l : Launch) (g : vG) {mm b1 b2 b3 b4 b5 b6 b7 b8 b9 b10 b11 b12 b13 b14 b15 b16 b17 : Nat} {kinds tgs first second vals qs : Nat → Int} {hds An qi qo Tm Nw Kw ris : Nat → Nat} {ni bc cm cn qc cd : Nat} {i0 j0 : Nat} (h1 : i0 < cm) (h2 : j0 < cm) (hb1 : cm ≤ 100) (hb2 : cm ≤ 100) : mI l g yX6_isNoPair wsX6_isNoPair ({ frames := 2, cells := 0, slots := 0, locals := 43 }) [.ref (mm), .int (iI ((i0 : Nat) : Int)), .int (iI ((j0 : Nat) : Int))] (wMM g mm b1 b2 b3 b4 b5 b6 b7 b8 b9 b10 b11 b12 b13 b14 b15 b16 b17 kinds ni cm first second An An Tm Tm bc hds tgs qc qi qo qs cn vals Nw Nw Kw Kw cd ++ ([])) (fun _ : Unit => wMM g mm b1 b2 b3 b4 b5 b6 b7 b8 b9 b10 b11 b12 b13 b14 b15 b16 b17 kinds ni cm first second An An Tm Tm bc hds tgs qc qi qo qs cn vals Nw Nw Kw Kw 0 ++ ([])) (fun v _ => v = iI (bZ false)) 0 0 := by
  refine mI_of (cc := cX6_isNoPair) (maxL := 3) (ret := (some .boolean)) (own := RX6) (by decide) rfl rfl (Nat.le_of_ble_eq_true rfl) ?_
  intro p e s m args below meth c A C hr hl hin
  refine v_aload_n C dX6_isNoPair_0 rfl 0 rfl ?_
  refine v_aload_n C dX6_isNoPair_1 rfl 0 rfl ?_
  refine v_iload_n C dX6_isNoPair_2 rfl 1 rfl ?_
  refine v_invVI C (As := [.int (iI ((i0 : Nat) : Int))]) (q0 := 0) (ci := 6) (kX6_isNoCommit_in l g (mm := mm) (b1 := b1) (b2 := b2) (b3 := b3) (b4 := b4) (b5 := b5) (b6 := b6) (b7 := b7) (b8 := b8) (b9 := b9) (b10 := b10) (b11 := b11) (b12 := b12) (b13 := b13) (b14 := b14) (b15 := b15) (b16 := b16) (b17 := b17) (kinds := kinds) (tgs := tgs) (first := first) (second := second) (vals := vals) (qs := qs) (hds := hds) (An := An) (qi := qi) (qo := qo) (Tm := Tm) (Nw := Nw) (Kw := Kw) (ni := ni) (bc := bc) (cm := cm) (cn := cn) (qc := qc) (cd := cd) (ris := ris) (i0 := i0) (by omega) (by omega)) (cwV 1 C.2.2.2.2.1 gX6_isNoPair_X6_isNoCommit rfl rfl rfl (by decide +kernel) ⟨Nat.le_of_ble_eq_true rfl, Nat.le_of_ble_eq_true rfl⟩) [wMM g mm b1 b2 b3 b4 b5 b6 b7 b8 b9 b10 b11 b12 b13 b14 b15 b16 b17 kinds ni cm first second An An Tm Tm bc hds tgs qc qi qo qs cn vals Nw Nw Kw Kw cd] [0] [] [.ref (mm)] (fun _ => [wMM g mm b1 b2 b3 b4 b5 b6 b7 b8 b9 b10 b11 b12 b13 b14 b15 b16 b17 kinds ni cm first second An An Tm Tm bc hds tgs qc qi qo qs cn vals Nw Nw Kw Kw cd]) (fun _ => wMM g mm b1 b2 b3 b4 b5 b6 b7 b8 b9 b10 b11 b12 b13 b14 b15 b16 b17 kinds ni cm first second An An Tm Tm bc hds tgs qc qi qo qs cn vals Nw Nw Kw Kw cd ++ ([])) rfl rfl rfl (fun _ => rfl) (fun _ => rfl) (fun _ => rfl) (fun _ => rfl) rfl rfl rfl rfl rfl (Nat.le_of_ble_eq_true rfl) dX6_isNoPair_3 ⟨by decide, by decide⟩ (fun r_2 _ h_1 => ?_)
  subst h_1
  refine v_ifz_ne C 17 dX6_isNoPair_6 (by decide) (fun h => nomatch h) (fun _ => ?_)
  refine v_aload_n C dX6_isNoPair_9 rfl 0 rfl ?_
  refine v_iload_n C dX6_isNoPair_10 rfl 2 rfl ?_
  refine v_invVI C (As := [.int (iI ((j0 : Nat) : Int))]) (q0 := 0) (ci := 6) (kX6_isNoCommit_in l g (mm := mm) (b1 := b1) (b2 := b2) (b3 := b3) (b4 := b4) (b5 := b5) (b6 := b6) (b7 := b7) (b8 := b8) (b9 := b9) (b10 := b10) (b11 := b11) (b12 := b12) (b13 := b13) (b14 := b14) (b15 := b15) (b16 := b16) (b17 := b17) (kinds := kinds) (tgs := tgs) (first := first) (second := second) (vals := vals) (qs := qs) (hds := hds) (An := An) (qi := qi) (qo := qo) (Tm := Tm) (Nw := Nw) (Kw := Kw) (ni := ni) (bc := bc) (cm := cm) (cn := cn) (qc := qc) (cd := cd) (ris := ris) (i0 := j0) (by omega) (by omega)) (cwV 1 C.2.2.2.2.1 gX6_isNoPair_X6_isNoCommit rfl rfl rfl (by decide +kernel) ⟨Nat.le_of_ble_eq_true rfl, Nat.le_of_ble_eq_true rfl⟩) [wMM g mm b1 b2 b3 b4 b5 b6 b7 b8 b9 b10 b11 b12 b13 b14 b15 b16 b17 kinds ni cm first second An An Tm Tm bc hds tgs qc qi qo qs cn vals Nw Nw Kw Kw cd] [0] [] [.ref (mm)] (fun _ => [wMM g mm b1 b2 b3 b4 b5 b6 b7 b8 b9 b10 b11 b12 b13 b14 b15 b16 b17 kinds ni cm first second An An Tm Tm bc hds tgs qc qi qo qs cn vals Nw Nw Kw Kw cd]) (fun _ => wMM g mm b1 b2 b3 b4 b5 b6 b7 b8 b9 b10 b11 b12 b13 b14 b15 b16 b17 kinds ni cm first second An An Tm Tm bc hds tgs qc qi qo qs cn vals Nw Nw Kw Kw cd ++ ([])) rfl rfl rfl (fun _ => rfl) (fun _ => rfl) (fun _ => rfl) (fun _ => rfl) rfl rfl rfl rfl rfl (Nat.le_of_ble_eq_true rfl) dX6_isNoPair_11 ⟨by decide, by decide⟩ (fun r_4 _ h_3 => ?_)
  subst h_3
  refine v_ifz_eq C 21 dX6_isNoPair_14 (by decide) (fun _ => ?_) (fun h => nomatch h) 
  refine v_iconst C (z := 0) dX6_isNoPair_21 ?_
  refine v_invVI C (As := [.int (iI (0))]) (q0 := 0) (ci := 6) (kX6_fails_z l g (mm := mm) (b1 := b1) (b2 := b2) (b3 := b3) (b4 := b4) (b5 := b5) (b6 := b6) (b7 := b7) (b8 := b8) (b9 := b9) (b10 := b10) (b11 := b11) (b12 := b12) (b13 := b13) (b14 := b14) (b15 := b15) (b16 := b16) (b17 := b17) (kinds := kinds) (tgs := tgs) (first := first) (second := second) (vals := vals) (qs := qs) (hds := hds) (An := An) (qi := qi) (qo := qo) (Tm := Tm) (Nw := Nw) (Kw := Kw) (ni := ni) (bc := bc) (cm := cm) (cn := cn) (qc := qc) (cd := cd) (ris := ris)  ) (cwV 1 C.2.2.2.2.1 gX6_isNoPair_X6_fails rfl rfl rfl (by decide +kernel) ⟨Nat.le_of_ble_eq_true rfl, Nat.le_of_ble_eq_true rfl⟩) [wMM g mm b1 b2 b3 b4 b5 b6 b7 b8 b9 b10 b11 b12 b13 b14 b15 b16 b17 kinds ni cm first second An An Tm Tm bc hds tgs qc qi qo qs cn vals Nw Nw Kw Kw cd] [0] [] [] (fun _ => [wMM g mm b1 b2 b3 b4 b5 b6 b7 b8 b9 b10 b11 b12 b13 b14 b15 b16 b17 kinds ni cm first second An An Tm Tm bc hds tgs qc qi qo qs cn vals Nw Nw Kw Kw 0]) (fun _ => wMM g mm b1 b2 b3 b4 b5 b6 b7 b8 b9 b10 b11 b12 b13 b14 b15 b16 b17 kinds ni cm first second An An Tm Tm bc hds tgs qc qi qo qs cn vals Nw Nw Kw Kw 0 ++ ([])) rfl rfl rfl (fun _ => rfl) (fun _ => rfl) (fun _ => rfl) (fun _ => rfl) rfl rfl rfl rfl rfl (Nat.le_of_ble_eq_true rfl) dX6_isNoPair_22 ⟨by decide, by decide⟩ (fun r_6 _ h_5 => ?_)
  subst h_5
  exact (v_zret C hr hl () (bZ_nar _) (by decide) (by decide) rfl rfl dX6_isNoPair_25)
set_option maxHeartbeats 4000000 in
set_option maxRecDepth 100000 in
theorem kX6_isNoPair_a (l : Launch) (g : vG) {mm b1 b2 b3 b4 b5 b6 b7 b8 b9 b10 b11 b12 b13 b14 b15 b16 b17 : Nat} {kinds tgs first second vals qs : Nat → Int} {hds An qi qo Tm Nw Kw ris : Nat → Nat} {ni bc cm cn qc cd : Nat} {x y : Int} (hx : b31 x) (h1 : ¬ (0 ≤ x ∧ x < ((cm : Nat) : Int))) (hb1 : cm ≤ 100) (hb2 : cm ≤ 100) : mI l g yX6_isNoPair wsX6_isNoPair ({ frames := 2, cells := 0, slots := 0, locals := 43 }) [.ref (mm), .int (iI (x)), .int (iI (y))] (wMM g mm b1 b2 b3 b4 b5 b6 b7 b8 b9 b10 b11 b12 b13 b14 b15 b16 b17 kinds ni cm first second An An Tm Tm bc hds tgs qc qi qo qs cn vals Nw Nw Kw Kw cd ++ ([])) (fun _ : Unit => wMM g mm b1 b2 b3 b4 b5 b6 b7 b8 b9 b10 b11 b12 b13 b14 b15 b16 b17 kinds ni cm first second An An Tm Tm bc hds tgs qc qi qo qs cn vals Nw Nw Kw Kw 1 ++ ([])) (fun v _ => v = iI (bZ true)) 0 0 := by
  refine mI_of (cc := cX6_isNoPair) (maxL := 3) (ret := (some .boolean)) (own := RX6) (by decide) rfl rfl (Nat.le_of_ble_eq_true rfl) ?_
  intro p e s m args below meth c A C hr hl hin
  have hx1 := hx.1
  have hx2 := hx.2
  refine v_aload_n C dX6_isNoPair_0 rfl 0 rfl ?_
  refine v_aload_n C dX6_isNoPair_1 rfl 0 rfl ?_
  refine v_iload_n C dX6_isNoPair_2 rfl 1 rfl ?_
  refine v_invVI C (As := [.int (iI (x))]) (q0 := 0) (ci := 6) (kX6_isNoCommit_out l g (mm := mm) (b1 := b1) (b2 := b2) (b3 := b3) (b4 := b4) (b5 := b5) (b6 := b6) (b7 := b7) (b8 := b8) (b9 := b9) (b10 := b10) (b11 := b11) (b12 := b12) (b13 := b13) (b14 := b14) (b15 := b15) (b16 := b16) (b17 := b17) (kinds := kinds) (tgs := tgs) (first := first) (second := second) (vals := vals) (qs := qs) (hds := hds) (An := An) (qi := qi) (qo := qo) (Tm := Tm) (Nw := Nw) (Kw := Kw) (ni := ni) (bc := bc) (cm := cm) (cn := cn) (qc := qc) (cd := cd) (ris := ris) (x := x) ⟨by omega, by omega⟩ (by omega) (by omega)) (cwV 1 C.2.2.2.2.1 gX6_isNoPair_X6_isNoCommit rfl rfl rfl (by decide +kernel) ⟨Nat.le_of_ble_eq_true rfl, Nat.le_of_ble_eq_true rfl⟩) [wMM g mm b1 b2 b3 b4 b5 b6 b7 b8 b9 b10 b11 b12 b13 b14 b15 b16 b17 kinds ni cm first second An An Tm Tm bc hds tgs qc qi qo qs cn vals Nw Nw Kw Kw cd] [0] [] [.ref (mm)] (fun _ => [wMM g mm b1 b2 b3 b4 b5 b6 b7 b8 b9 b10 b11 b12 b13 b14 b15 b16 b17 kinds ni cm first second An An Tm Tm bc hds tgs qc qi qo qs cn vals Nw Nw Kw Kw cd]) (fun _ => wMM g mm b1 b2 b3 b4 b5 b6 b7 b8 b9 b10 b11 b12 b13 b14 b15 b16 b17 kinds ni cm first second An An Tm Tm bc hds tgs qc qi qo qs cn vals Nw Nw Kw Kw cd ++ ([])) rfl rfl rfl (fun _ => rfl) (fun _ => rfl) (fun _ => rfl) (fun _ => rfl) rfl rfl rfl rfl rfl (Nat.le_of_ble_eq_true rfl) dX6_isNoPair_3 ⟨by decide, by decide⟩ (fun r_2 _ h_1 => ?_)
  subst h_1
  refine v_ifz_ne C 17 dX6_isNoPair_6 (by decide) (fun _ => ?_) (fun h => nomatch h) 
  refine v_iconst C (z := 1) dX6_isNoPair_17 ?_
  refine v_goto C 22 dX6_isNoPair_18 (by decide) ?_
  refine v_invVI C (As := [.int (iI (1))]) (q0 := 0) (ci := 6) (kX6_fails_p l g (mm := mm) (b1 := b1) (b2 := b2) (b3 := b3) (b4 := b4) (b5 := b5) (b6 := b6) (b7 := b7) (b8 := b8) (b9 := b9) (b10 := b10) (b11 := b11) (b12 := b12) (b13 := b13) (b14 := b14) (b15 := b15) (b16 := b16) (b17 := b17) (kinds := kinds) (tgs := tgs) (first := first) (second := second) (vals := vals) (qs := qs) (hds := hds) (An := An) (qi := qi) (qo := qo) (Tm := Tm) (Nw := Nw) (Kw := Kw) (ni := ni) (bc := bc) (cm := cm) (cn := cn) (qc := qc) (cd := cd) (ris := ris) (q := 1) (by decide)) (cwV 1 C.2.2.2.2.1 gX6_isNoPair_X6_fails rfl rfl rfl (by decide +kernel) ⟨Nat.le_of_ble_eq_true rfl, Nat.le_of_ble_eq_true rfl⟩) [wMM g mm b1 b2 b3 b4 b5 b6 b7 b8 b9 b10 b11 b12 b13 b14 b15 b16 b17 kinds ni cm first second An An Tm Tm bc hds tgs qc qi qo qs cn vals Nw Nw Kw Kw cd] [0] [] [] (fun _ => [wMM g mm b1 b2 b3 b4 b5 b6 b7 b8 b9 b10 b11 b12 b13 b14 b15 b16 b17 kinds ni cm first second An An Tm Tm bc hds tgs qc qi qo qs cn vals Nw Nw Kw Kw 1]) (fun _ => wMM g mm b1 b2 b3 b4 b5 b6 b7 b8 b9 b10 b11 b12 b13 b14 b15 b16 b17 kinds ni cm first second An An Tm Tm bc hds tgs qc qi qo qs cn vals Nw Nw Kw Kw 1 ++ ([])) rfl rfl rfl (fun _ => rfl) (fun _ => rfl) (fun _ => rfl) (fun _ => rfl) rfl rfl rfl rfl rfl (Nat.le_of_ble_eq_true rfl) dX6_isNoPair_22 ⟨by decide, by decide⟩ (fun r_4 _ h_3 => ?_)
  subst h_3
  exact (v_zret C hr hl () (bZ_nar _) (by decide) (by decide) rfl rfl dX6_isNoPair_25)
set_option maxHeartbeats 4000000 in
set_option maxRecDepth 100000 in
theorem kX6_isNoPair_b (l : Launch) (g : vG) {mm b1 b2 b3 b4 b5 b6 b7 b8 b9 b10 b11 b12 b13 b14 b15 b16 b17 : Nat} {kinds tgs first second vals qs : Nat → Int} {hds An qi qo Tm Nw Kw ris : Nat → Nat} {ni bc cm cn qc cd : Nat} {i0 : Nat} {y : Int} (h1 : i0 < cm) (hy : b31 y) (h2 : ¬ (0 ≤ y ∧ y < ((cm : Nat) : Int))) (hb1 : cm ≤ 100) (hb2 : cm ≤ 100) : mI l g yX6_isNoPair wsX6_isNoPair ({ frames := 2, cells := 0, slots := 0, locals := 43 }) [.ref (mm), .int (iI ((i0 : Nat) : Int)), .int (iI (y))] (wMM g mm b1 b2 b3 b4 b5 b6 b7 b8 b9 b10 b11 b12 b13 b14 b15 b16 b17 kinds ni cm first second An An Tm Tm bc hds tgs qc qi qo qs cn vals Nw Nw Kw Kw cd ++ ([])) (fun _ : Unit => wMM g mm b1 b2 b3 b4 b5 b6 b7 b8 b9 b10 b11 b12 b13 b14 b15 b16 b17 kinds ni cm first second An An Tm Tm bc hds tgs qc qi qo qs cn vals Nw Nw Kw Kw 1 ++ ([])) (fun v _ => v = iI (bZ true)) 0 0 := by
  refine mI_of (cc := cX6_isNoPair) (maxL := 3) (ret := (some .boolean)) (own := RX6) (by decide) rfl rfl (Nat.le_of_ble_eq_true rfl) ?_
  intro p e s m args below meth c A C hr hl hin
  have hy1 := hy.1
  have hy2 := hy.2
  refine v_aload_n C dX6_isNoPair_0 rfl 0 rfl ?_
  refine v_aload_n C dX6_isNoPair_1 rfl 0 rfl ?_
  refine v_iload_n C dX6_isNoPair_2 rfl 1 rfl ?_
  refine v_invVI C (As := [.int (iI ((i0 : Nat) : Int))]) (q0 := 0) (ci := 6) (kX6_isNoCommit_in l g (mm := mm) (b1 := b1) (b2 := b2) (b3 := b3) (b4 := b4) (b5 := b5) (b6 := b6) (b7 := b7) (b8 := b8) (b9 := b9) (b10 := b10) (b11 := b11) (b12 := b12) (b13 := b13) (b14 := b14) (b15 := b15) (b16 := b16) (b17 := b17) (kinds := kinds) (tgs := tgs) (first := first) (second := second) (vals := vals) (qs := qs) (hds := hds) (An := An) (qi := qi) (qo := qo) (Tm := Tm) (Nw := Nw) (Kw := Kw) (ni := ni) (bc := bc) (cm := cm) (cn := cn) (qc := qc) (cd := cd) (ris := ris) (i0 := i0) (by omega) (by omega)) (cwV 1 C.2.2.2.2.1 gX6_isNoPair_X6_isNoCommit rfl rfl rfl (by decide +kernel) ⟨Nat.le_of_ble_eq_true rfl, Nat.le_of_ble_eq_true rfl⟩) [wMM g mm b1 b2 b3 b4 b5 b6 b7 b8 b9 b10 b11 b12 b13 b14 b15 b16 b17 kinds ni cm first second An An Tm Tm bc hds tgs qc qi qo qs cn vals Nw Nw Kw Kw cd] [0] [] [.ref (mm)] (fun _ => [wMM g mm b1 b2 b3 b4 b5 b6 b7 b8 b9 b10 b11 b12 b13 b14 b15 b16 b17 kinds ni cm first second An An Tm Tm bc hds tgs qc qi qo qs cn vals Nw Nw Kw Kw cd]) (fun _ => wMM g mm b1 b2 b3 b4 b5 b6 b7 b8 b9 b10 b11 b12 b13 b14 b15 b16 b17 kinds ni cm first second An An Tm Tm bc hds tgs qc qi qo qs cn vals Nw Nw Kw Kw cd ++ ([])) rfl rfl rfl (fun _ => rfl) (fun _ => rfl) (fun _ => rfl) (fun _ => rfl) rfl rfl rfl rfl rfl (Nat.le_of_ble_eq_true rfl) dX6_isNoPair_3 ⟨by decide, by decide⟩ (fun r_2 _ h_1 => ?_)
  subst h_1
  refine v_ifz_ne C 17 dX6_isNoPair_6 (by decide) (fun h => nomatch h) (fun _ => ?_)
  refine v_aload_n C dX6_isNoPair_9 rfl 0 rfl ?_
  refine v_iload_n C dX6_isNoPair_10 rfl 2 rfl ?_
  refine v_invVI C (As := [.int (iI (y))]) (q0 := 0) (ci := 6) (kX6_isNoCommit_out l g (mm := mm) (b1 := b1) (b2 := b2) (b3 := b3) (b4 := b4) (b5 := b5) (b6 := b6) (b7 := b7) (b8 := b8) (b9 := b9) (b10 := b10) (b11 := b11) (b12 := b12) (b13 := b13) (b14 := b14) (b15 := b15) (b16 := b16) (b17 := b17) (kinds := kinds) (tgs := tgs) (first := first) (second := second) (vals := vals) (qs := qs) (hds := hds) (An := An) (qi := qi) (qo := qo) (Tm := Tm) (Nw := Nw) (Kw := Kw) (ni := ni) (bc := bc) (cm := cm) (cn := cn) (qc := qc) (cd := cd) (ris := ris) (x := y) ⟨by omega, by omega⟩ (by omega) (by omega)) (cwV 1 C.2.2.2.2.1 gX6_isNoPair_X6_isNoCommit rfl rfl rfl (by decide +kernel) ⟨Nat.le_of_ble_eq_true rfl, Nat.le_of_ble_eq_true rfl⟩) [wMM g mm b1 b2 b3 b4 b5 b6 b7 b8 b9 b10 b11 b12 b13 b14 b15 b16 b17 kinds ni cm first second An An Tm Tm bc hds tgs qc qi qo qs cn vals Nw Nw Kw Kw cd] [0] [] [.ref (mm)] (fun _ => [wMM g mm b1 b2 b3 b4 b5 b6 b7 b8 b9 b10 b11 b12 b13 b14 b15 b16 b17 kinds ni cm first second An An Tm Tm bc hds tgs qc qi qo qs cn vals Nw Nw Kw Kw cd]) (fun _ => wMM g mm b1 b2 b3 b4 b5 b6 b7 b8 b9 b10 b11 b12 b13 b14 b15 b16 b17 kinds ni cm first second An An Tm Tm bc hds tgs qc qi qo qs cn vals Nw Nw Kw Kw cd ++ ([])) rfl rfl rfl (fun _ => rfl) (fun _ => rfl) (fun _ => rfl) (fun _ => rfl) rfl rfl rfl rfl rfl (Nat.le_of_ble_eq_true rfl) dX6_isNoPair_11 ⟨by decide, by decide⟩ (fun r_4 _ h_3 => ?_)
  subst h_3
  refine v_ifz_eq C 21 dX6_isNoPair_14 (by decide) (fun h => nomatch h) (fun _ => ?_)
  refine v_iconst C (z := 1) dX6_isNoPair_17 ?_
  refine v_goto C 22 dX6_isNoPair_18 (by decide) ?_
  refine v_invVI C (As := [.int (iI (1))]) (q0 := 0) (ci := 6) (kX6_fails_p l g (mm := mm) (b1 := b1) (b2 := b2) (b3 := b3) (b4 := b4) (b5 := b5) (b6 := b6) (b7 := b7) (b8 := b8) (b9 := b9) (b10 := b10) (b11 := b11) (b12 := b12) (b13 := b13) (b14 := b14) (b15 := b15) (b16 := b16) (b17 := b17) (kinds := kinds) (tgs := tgs) (first := first) (second := second) (vals := vals) (qs := qs) (hds := hds) (An := An) (qi := qi) (qo := qo) (Tm := Tm) (Nw := Nw) (Kw := Kw) (ni := ni) (bc := bc) (cm := cm) (cn := cn) (qc := qc) (cd := cd) (ris := ris) (q := 1) (by decide)) (cwV 1 C.2.2.2.2.1 gX6_isNoPair_X6_fails rfl rfl rfl (by decide +kernel) ⟨Nat.le_of_ble_eq_true rfl, Nat.le_of_ble_eq_true rfl⟩) [wMM g mm b1 b2 b3 b4 b5 b6 b7 b8 b9 b10 b11 b12 b13 b14 b15 b16 b17 kinds ni cm first second An An Tm Tm bc hds tgs qc qi qo qs cn vals Nw Nw Kw Kw cd] [0] [] [] (fun _ => [wMM g mm b1 b2 b3 b4 b5 b6 b7 b8 b9 b10 b11 b12 b13 b14 b15 b16 b17 kinds ni cm first second An An Tm Tm bc hds tgs qc qi qo qs cn vals Nw Nw Kw Kw 1]) (fun _ => wMM g mm b1 b2 b3 b4 b5 b6 b7 b8 b9 b10 b11 b12 b13 b14 b15 b16 b17 kinds ni cm first second An An Tm Tm bc hds tgs qc qi qo qs cn vals Nw Nw Kw Kw 1 ++ ([])) rfl rfl rfl (fun _ => rfl) (fun _ => rfl) (fun _ => rfl) (fun _ => rfl) rfl rfl rfl rfl rfl (Nat.le_of_ble_eq_true rfl) dX6_isNoPair_22 ⟨by decide, by decide⟩ (fun r_6 _ h_5 => ?_)
  subst h_5
  exact (v_zret C hr hl () (bZ_nar _) (by decide) (by decide) rfl rfl dX6_isNoPair_25)
set_option maxHeartbeats 4000000 in
set_option maxRecDepth 100000 in
theorem kX6_isNoPlace_in (l : Launch) (g : vG) {mm b1 b2 b3 b4 b5 b6 b7 b8 b9 b10 b11 b12 b13 b14 b15 b16 b17 : Nat} {kinds tgs first second vals qs : Nat → Int} {hds An qi qo Tm Nw Kw ris : Nat → Nat} {ni bc cm cn qc cd : Nat} {i0 j0 : Nat} (h1 : i0 < cm) (h2 : j0 < ni) (hb1 : cm ≤ 100) (hb2 : ni ≤ 100) : mI l g yX6_isNoPlace wsX6_isNoPlace ({ frames := 2, cells := 0, slots := 0, locals := 43 }) [.ref (mm), .int (iI ((i0 : Nat) : Int)), .int (iI ((j0 : Nat) : Int))] (wMM g mm b1 b2 b3 b4 b5 b6 b7 b8 b9 b10 b11 b12 b13 b14 b15 b16 b17 kinds ni cm first second An An Tm Tm bc hds tgs qc qi qo qs cn vals Nw Nw Kw Kw cd ++ ([])) (fun _ : Unit => wMM g mm b1 b2 b3 b4 b5 b6 b7 b8 b9 b10 b11 b12 b13 b14 b15 b16 b17 kinds ni cm first second An An Tm Tm bc hds tgs qc qi qo qs cn vals Nw Nw Kw Kw 0 ++ ([])) (fun v _ => v = iI (bZ false)) 0 0 := by
  refine mI_of (cc := cX6_isNoPlace) (maxL := 3) (ret := (some .boolean)) (own := RX6) (by decide) rfl rfl (Nat.le_of_ble_eq_true rfl) ?_
  intro p e s m args below meth c A C hr hl hin
  refine v_aload_n C dX6_isNoPlace_0 rfl 0 rfl ?_
  refine v_aload_n C dX6_isNoPlace_1 rfl 0 rfl ?_
  refine v_iload_n C dX6_isNoPlace_2 rfl 1 rfl ?_
  refine v_invVI C (As := [.int (iI ((i0 : Nat) : Int))]) (q0 := 0) (ci := 6) (kX6_isNoCommit_in l g (mm := mm) (b1 := b1) (b2 := b2) (b3 := b3) (b4 := b4) (b5 := b5) (b6 := b6) (b7 := b7) (b8 := b8) (b9 := b9) (b10 := b10) (b11 := b11) (b12 := b12) (b13 := b13) (b14 := b14) (b15 := b15) (b16 := b16) (b17 := b17) (kinds := kinds) (tgs := tgs) (first := first) (second := second) (vals := vals) (qs := qs) (hds := hds) (An := An) (qi := qi) (qo := qo) (Tm := Tm) (Nw := Nw) (Kw := Kw) (ni := ni) (bc := bc) (cm := cm) (cn := cn) (qc := qc) (cd := cd) (ris := ris) (i0 := i0) (by omega) (by omega)) (cwV 1 C.2.2.2.2.1 gX6_isNoPlace_X6_isNoCommit rfl rfl rfl (by decide +kernel) ⟨Nat.le_of_ble_eq_true rfl, Nat.le_of_ble_eq_true rfl⟩) [wMM g mm b1 b2 b3 b4 b5 b6 b7 b8 b9 b10 b11 b12 b13 b14 b15 b16 b17 kinds ni cm first second An An Tm Tm bc hds tgs qc qi qo qs cn vals Nw Nw Kw Kw cd] [0] [] [.ref (mm)] (fun _ => [wMM g mm b1 b2 b3 b4 b5 b6 b7 b8 b9 b10 b11 b12 b13 b14 b15 b16 b17 kinds ni cm first second An An Tm Tm bc hds tgs qc qi qo qs cn vals Nw Nw Kw Kw cd]) (fun _ => wMM g mm b1 b2 b3 b4 b5 b6 b7 b8 b9 b10 b11 b12 b13 b14 b15 b16 b17 kinds ni cm first second An An Tm Tm bc hds tgs qc qi qo qs cn vals Nw Nw Kw Kw cd ++ ([])) rfl rfl rfl (fun _ => rfl) (fun _ => rfl) (fun _ => rfl) (fun _ => rfl) rfl rfl rfl rfl rfl (Nat.le_of_ble_eq_true rfl) dX6_isNoPlace_3 ⟨by decide, by decide⟩ (fun r_2 _ h_1 => ?_)
  subst h_1
  refine v_ifz_ne C 17 dX6_isNoPlace_6 (by decide) (fun h => nomatch h) (fun _ => ?_)
  refine v_aload_n C dX6_isNoPlace_9 rfl 0 rfl ?_
  refine v_iload_n C dX6_isNoPlace_10 rfl 2 rfl ?_
  refine v_invVI C (As := [.int (iI ((j0 : Nat) : Int))]) (q0 := 0) (ci := 6) (kX6_isNoItem_in l g (mm := mm) (b1 := b1) (b2 := b2) (b3 := b3) (b4 := b4) (b5 := b5) (b6 := b6) (b7 := b7) (b8 := b8) (b9 := b9) (b10 := b10) (b11 := b11) (b12 := b12) (b13 := b13) (b14 := b14) (b15 := b15) (b16 := b16) (b17 := b17) (kinds := kinds) (tgs := tgs) (first := first) (second := second) (vals := vals) (qs := qs) (hds := hds) (An := An) (qi := qi) (qo := qo) (Tm := Tm) (Nw := Nw) (Kw := Kw) (ni := ni) (bc := bc) (cm := cm) (cn := cn) (qc := qc) (cd := cd) (ris := ris) (i0 := j0) (by omega) (by omega)) (cwV 1 C.2.2.2.2.1 gX6_isNoPlace_X6_isNoItem rfl rfl rfl (by decide +kernel) ⟨Nat.le_of_ble_eq_true rfl, Nat.le_of_ble_eq_true rfl⟩) [wMM g mm b1 b2 b3 b4 b5 b6 b7 b8 b9 b10 b11 b12 b13 b14 b15 b16 b17 kinds ni cm first second An An Tm Tm bc hds tgs qc qi qo qs cn vals Nw Nw Kw Kw cd] [0] [] [.ref (mm)] (fun _ => [wMM g mm b1 b2 b3 b4 b5 b6 b7 b8 b9 b10 b11 b12 b13 b14 b15 b16 b17 kinds ni cm first second An An Tm Tm bc hds tgs qc qi qo qs cn vals Nw Nw Kw Kw cd]) (fun _ => wMM g mm b1 b2 b3 b4 b5 b6 b7 b8 b9 b10 b11 b12 b13 b14 b15 b16 b17 kinds ni cm first second An An Tm Tm bc hds tgs qc qi qo qs cn vals Nw Nw Kw Kw cd ++ ([])) rfl rfl rfl (fun _ => rfl) (fun _ => rfl) (fun _ => rfl) (fun _ => rfl) rfl rfl rfl rfl rfl (Nat.le_of_ble_eq_true rfl) dX6_isNoPlace_11 ⟨by decide, by decide⟩ (fun r_4 _ h_3 => ?_)
  subst h_3
  refine v_ifz_eq C 21 dX6_isNoPlace_14 (by decide) (fun _ => ?_) (fun h => nomatch h) 
  refine v_iconst C (z := 0) dX6_isNoPlace_21 ?_
  refine v_invVI C (As := [.int (iI (0))]) (q0 := 0) (ci := 6) (kX6_fails_z l g (mm := mm) (b1 := b1) (b2 := b2) (b3 := b3) (b4 := b4) (b5 := b5) (b6 := b6) (b7 := b7) (b8 := b8) (b9 := b9) (b10 := b10) (b11 := b11) (b12 := b12) (b13 := b13) (b14 := b14) (b15 := b15) (b16 := b16) (b17 := b17) (kinds := kinds) (tgs := tgs) (first := first) (second := second) (vals := vals) (qs := qs) (hds := hds) (An := An) (qi := qi) (qo := qo) (Tm := Tm) (Nw := Nw) (Kw := Kw) (ni := ni) (bc := bc) (cm := cm) (cn := cn) (qc := qc) (cd := cd) (ris := ris)  ) (cwV 1 C.2.2.2.2.1 gX6_isNoPlace_X6_fails rfl rfl rfl (by decide +kernel) ⟨Nat.le_of_ble_eq_true rfl, Nat.le_of_ble_eq_true rfl⟩) [wMM g mm b1 b2 b3 b4 b5 b6 b7 b8 b9 b10 b11 b12 b13 b14 b15 b16 b17 kinds ni cm first second An An Tm Tm bc hds tgs qc qi qo qs cn vals Nw Nw Kw Kw cd] [0] [] [] (fun _ => [wMM g mm b1 b2 b3 b4 b5 b6 b7 b8 b9 b10 b11 b12 b13 b14 b15 b16 b17 kinds ni cm first second An An Tm Tm bc hds tgs qc qi qo qs cn vals Nw Nw Kw Kw 0]) (fun _ => wMM g mm b1 b2 b3 b4 b5 b6 b7 b8 b9 b10 b11 b12 b13 b14 b15 b16 b17 kinds ni cm first second An An Tm Tm bc hds tgs qc qi qo qs cn vals Nw Nw Kw Kw 0 ++ ([])) rfl rfl rfl (fun _ => rfl) (fun _ => rfl) (fun _ => rfl) (fun _ => rfl) rfl rfl rfl rfl rfl (Nat.le_of_ble_eq_true rfl) dX6_isNoPlace_22 ⟨by decide, by decide⟩ (fun r_6 _ h_5 => ?_)
  subst h_5
  exact (v_zret C hr hl () (bZ_nar _) (by decide) (by decide) rfl rfl dX6_isNoPlace_25)
set_option maxHeartbeats 4000000 in
set_option maxRecDepth 100000 in
theorem kX6_isNoPlace_a (l : Launch) (g : vG) {mm b1 b2 b3 b4 b5 b6 b7 b8 b9 b10 b11 b12 b13 b14 b15 b16 b17 : Nat} {kinds tgs first second vals qs : Nat → Int} {hds An qi qo Tm Nw Kw ris : Nat → Nat} {ni bc cm cn qc cd : Nat} {x y : Int} (hx : b31 x) (h1 : ¬ (0 ≤ x ∧ x < ((cm : Nat) : Int))) (hb1 : cm ≤ 100) (hb2 : ni ≤ 100) : mI l g yX6_isNoPlace wsX6_isNoPlace ({ frames := 2, cells := 0, slots := 0, locals := 43 }) [.ref (mm), .int (iI (x)), .int (iI (y))] (wMM g mm b1 b2 b3 b4 b5 b6 b7 b8 b9 b10 b11 b12 b13 b14 b15 b16 b17 kinds ni cm first second An An Tm Tm bc hds tgs qc qi qo qs cn vals Nw Nw Kw Kw cd ++ ([])) (fun _ : Unit => wMM g mm b1 b2 b3 b4 b5 b6 b7 b8 b9 b10 b11 b12 b13 b14 b15 b16 b17 kinds ni cm first second An An Tm Tm bc hds tgs qc qi qo qs cn vals Nw Nw Kw Kw 1 ++ ([])) (fun v _ => v = iI (bZ true)) 0 0 := by
  refine mI_of (cc := cX6_isNoPlace) (maxL := 3) (ret := (some .boolean)) (own := RX6) (by decide) rfl rfl (Nat.le_of_ble_eq_true rfl) ?_
  intro p e s m args below meth c A C hr hl hin
  have hx1 := hx.1
  have hx2 := hx.2
  refine v_aload_n C dX6_isNoPlace_0 rfl 0 rfl ?_
  refine v_aload_n C dX6_isNoPlace_1 rfl 0 rfl ?_
  refine v_iload_n C dX6_isNoPlace_2 rfl 1 rfl ?_
  refine v_invVI C (As := [.int (iI (x))]) (q0 := 0) (ci := 6) (kX6_isNoCommit_out l g (mm := mm) (b1 := b1) (b2 := b2) (b3 := b3) (b4 := b4) (b5 := b5) (b6 := b6) (b7 := b7) (b8 := b8) (b9 := b9) (b10 := b10) (b11 := b11) (b12 := b12) (b13 := b13) (b14 := b14) (b15 := b15) (b16 := b16) (b17 := b17) (kinds := kinds) (tgs := tgs) (first := first) (second := second) (vals := vals) (qs := qs) (hds := hds) (An := An) (qi := qi) (qo := qo) (Tm := Tm) (Nw := Nw) (Kw := Kw) (ni := ni) (bc := bc) (cm := cm) (cn := cn) (qc := qc) (cd := cd) (ris := ris) (x := x) ⟨by omega, by omega⟩ (by omega) (by omega)) (cwV 1 C.2.2.2.2.1 gX6_isNoPlace_X6_isNoCommit rfl rfl rfl (by decide +kernel) ⟨Nat.le_of_ble_eq_true rfl, Nat.le_of_ble_eq_true rfl⟩) [wMM g mm b1 b2 b3 b4 b5 b6 b7 b8 b9 b10 b11 b12 b13 b14 b15 b16 b17 kinds ni cm first second An An Tm Tm bc hds tgs qc qi qo qs cn vals Nw Nw Kw Kw cd] [0] [] [.ref (mm)] (fun _ => [wMM g mm b1 b2 b3 b4 b5 b6 b7 b8 b9 b10 b11 b12 b13 b14 b15 b16 b17 kinds ni cm first second An An Tm Tm bc hds tgs qc qi qo qs cn vals Nw Nw Kw Kw cd]) (fun _ => wMM g mm b1 b2 b3 b4 b5 b6 b7 b8 b9 b10 b11 b12 b13 b14 b15 b16 b17 kinds ni cm first second An An Tm Tm bc hds tgs qc qi qo qs cn vals Nw Nw Kw Kw cd ++ ([])) rfl rfl rfl (fun _ => rfl) (fun _ => rfl) (fun _ => rfl) (fun _ => rfl) rfl rfl rfl rfl rfl (Nat.le_of_ble_eq_true rfl) dX6_isNoPlace_3 ⟨by decide, by decide⟩ (fun r_2 _ h_1 => ?_)
  subst h_1
  refine v_ifz_ne C 17 dX6_isNoPlace_6 (by decide) (fun _ => ?_) (fun h => nomatch h) 
  refine v_iconst C (z := 1) dX6_isNoPlace_17 ?_
  refine v_goto C 22 dX6_isNoPlace_18 (by decide) ?_
  refine v_invVI C (As := [.int (iI (1))]) (q0 := 0) (ci := 6) (kX6_fails_p l g (mm := mm) (b1 := b1) (b2 := b2) (b3 := b3) (b4 := b4) (b5 := b5) (b6 := b6) (b7 := b7) (b8 := b8) (b9 := b9) (b10 := b10) (b11 := b11) (b12 := b12) (b13 := b13) (b14 := b14) (b15 := b15) (b16 := b16) (b17 := b17) (kinds := kinds) (tgs := tgs) (first := first) (second := second) (vals := vals) (qs := qs) (hds := hds) (An := An) (qi := qi) (qo := qo) (Tm := Tm) (Nw := Nw) (Kw := Kw) (ni := ni) (bc := bc) (cm := cm) (cn := cn) (qc := qc) (cd := cd) (ris := ris) (q := 1) (by decide)) (cwV 1 C.2.2.2.2.1 gX6_isNoPlace_X6_fails rfl rfl rfl (by decide +kernel) ⟨Nat.le_of_ble_eq_true rfl, Nat.le_of_ble_eq_true rfl⟩) [wMM g mm b1 b2 b3 b4 b5 b6 b7 b8 b9 b10 b11 b12 b13 b14 b15 b16 b17 kinds ni cm first second An An Tm Tm bc hds tgs qc qi qo qs cn vals Nw Nw Kw Kw cd] [0] [] [] (fun _ => [wMM g mm b1 b2 b3 b4 b5 b6 b7 b8 b9 b10 b11 b12 b13 b14 b15 b16 b17 kinds ni cm first second An An Tm Tm bc hds tgs qc qi qo qs cn vals Nw Nw Kw Kw 1]) (fun _ => wMM g mm b1 b2 b3 b4 b5 b6 b7 b8 b9 b10 b11 b12 b13 b14 b15 b16 b17 kinds ni cm first second An An Tm Tm bc hds tgs qc qi qo qs cn vals Nw Nw Kw Kw 1 ++ ([])) rfl rfl rfl (fun _ => rfl) (fun _ => rfl) (fun _ => rfl) (fun _ => rfl) rfl rfl rfl rfl rfl (Nat.le_of_ble_eq_true rfl) dX6_isNoPlace_22 ⟨by decide, by decide⟩ (fun r_4 _ h_3 => ?_)
  subst h_3
  exact (v_zret C hr hl () (bZ_nar _) (by decide) (by decide) rfl rfl dX6_isNoPlace_25)
set_option maxHeartbeats 4000000 in
set_option maxRecDepth 100000 in
theorem kX6_isNoPlace_b (l : Launch) (g : vG) {mm b1 b2 b3 b4 b5 b6 b7 b8 b9 b10 b11 b12 b13 b14 b15 b16 b17 : Nat} {kinds tgs first second vals qs : Nat → Int} {hds An qi qo Tm Nw Kw ris : Nat → Nat} {ni bc cm cn qc cd : Nat} {i0 : Nat} {y : Int} (h1 : i0 < cm) (hy : b31 y) (h2 : ¬ (0 ≤ y ∧ y < ((ni : Nat) : Int))) (hb1 : cm ≤ 100) (hb2 : ni ≤ 100) : mI l g yX6_isNoPlace wsX6_isNoPlace ({ frames := 2, cells := 0, slots := 0, locals := 43 }) [.ref (mm), .int (iI ((i0 : Nat) : Int)), .int (iI (y))] (wMM g mm b1 b2 b3 b4 b5 b6 b7 b8 b9 b10 b11 b12 b13 b14 b15 b16 b17 kinds ni cm first second An An Tm Tm bc hds tgs qc qi qo qs cn vals Nw Nw Kw Kw cd ++ ([])) (fun _ : Unit => wMM g mm b1 b2 b3 b4 b5 b6 b7 b8 b9 b10 b11 b12 b13 b14 b15 b16 b17 kinds ni cm first second An An Tm Tm bc hds tgs qc qi qo qs cn vals Nw Nw Kw Kw 1 ++ ([])) (fun v _ => v = iI (bZ true)) 0 0 := by
  refine mI_of (cc := cX6_isNoPlace) (maxL := 3) (ret := (some .boolean)) (own := RX6) (by decide) rfl rfl (Nat.le_of_ble_eq_true rfl) ?_
  intro p e s m args below meth c A C hr hl hin
  have hy1 := hy.1
  have hy2 := hy.2
  refine v_aload_n C dX6_isNoPlace_0 rfl 0 rfl ?_
  refine v_aload_n C dX6_isNoPlace_1 rfl 0 rfl ?_
  refine v_iload_n C dX6_isNoPlace_2 rfl 1 rfl ?_
  refine v_invVI C (As := [.int (iI ((i0 : Nat) : Int))]) (q0 := 0) (ci := 6) (kX6_isNoCommit_in l g (mm := mm) (b1 := b1) (b2 := b2) (b3 := b3) (b4 := b4) (b5 := b5) (b6 := b6) (b7 := b7) (b8 := b8) (b9 := b9) (b10 := b10) (b11 := b11) (b12 := b12) (b13 := b13) (b14 := b14) (b15 := b15) (b16 := b16) (b17 := b17) (kinds := kinds) (tgs := tgs) (first := first) (second := second) (vals := vals) (qs := qs) (hds := hds) (An := An) (qi := qi) (qo := qo) (Tm := Tm) (Nw := Nw) (Kw := Kw) (ni := ni) (bc := bc) (cm := cm) (cn := cn) (qc := qc) (cd := cd) (ris := ris) (i0 := i0) (by omega) (by omega)) (cwV 1 C.2.2.2.2.1 gX6_isNoPlace_X6_isNoCommit rfl rfl rfl (by decide +kernel) ⟨Nat.le_of_ble_eq_true rfl, Nat.le_of_ble_eq_true rfl⟩) [wMM g mm b1 b2 b3 b4 b5 b6 b7 b8 b9 b10 b11 b12 b13 b14 b15 b16 b17 kinds ni cm first second An An Tm Tm bc hds tgs qc qi qo qs cn vals Nw Nw Kw Kw cd] [0] [] [.ref (mm)] (fun _ => [wMM g mm b1 b2 b3 b4 b5 b6 b7 b8 b9 b10 b11 b12 b13 b14 b15 b16 b17 kinds ni cm first second An An Tm Tm bc hds tgs qc qi qo qs cn vals Nw Nw Kw Kw cd]) (fun _ => wMM g mm b1 b2 b3 b4 b5 b6 b7 b8 b9 b10 b11 b12 b13 b14 b15 b16 b17 kinds ni cm first second An An Tm Tm bc hds tgs qc qi qo qs cn vals Nw Nw Kw Kw cd ++ ([])) rfl rfl rfl (fun _ => rfl) (fun _ => rfl) (fun _ => rfl) (fun _ => rfl) rfl rfl rfl rfl rfl (Nat.le_of_ble_eq_true rfl) dX6_isNoPlace_3 ⟨by decide, by decide⟩ (fun r_2 _ h_1 => ?_)
  subst h_1
  refine v_ifz_ne C 17 dX6_isNoPlace_6 (by decide) (fun h => nomatch h) (fun _ => ?_)
  refine v_aload_n C dX6_isNoPlace_9 rfl 0 rfl ?_
  refine v_iload_n C dX6_isNoPlace_10 rfl 2 rfl ?_
  refine v_invVI C (As := [.int (iI (y))]) (q0 := 0) (ci := 6) (kX6_isNoItem_out l g (mm := mm) (b1 := b1) (b2 := b2) (b3 := b3) (b4 := b4) (b5 := b5) (b6 := b6) (b7 := b7) (b8 := b8) (b9 := b9) (b10 := b10) (b11 := b11) (b12 := b12) (b13 := b13) (b14 := b14) (b15 := b15) (b16 := b16) (b17 := b17) (kinds := kinds) (tgs := tgs) (first := first) (second := second) (vals := vals) (qs := qs) (hds := hds) (An := An) (qi := qi) (qo := qo) (Tm := Tm) (Nw := Nw) (Kw := Kw) (ni := ni) (bc := bc) (cm := cm) (cn := cn) (qc := qc) (cd := cd) (ris := ris) (x := y) ⟨by omega, by omega⟩ (by omega) (by omega)) (cwV 1 C.2.2.2.2.1 gX6_isNoPlace_X6_isNoItem rfl rfl rfl (by decide +kernel) ⟨Nat.le_of_ble_eq_true rfl, Nat.le_of_ble_eq_true rfl⟩) [wMM g mm b1 b2 b3 b4 b5 b6 b7 b8 b9 b10 b11 b12 b13 b14 b15 b16 b17 kinds ni cm first second An An Tm Tm bc hds tgs qc qi qo qs cn vals Nw Nw Kw Kw cd] [0] [] [.ref (mm)] (fun _ => [wMM g mm b1 b2 b3 b4 b5 b6 b7 b8 b9 b10 b11 b12 b13 b14 b15 b16 b17 kinds ni cm first second An An Tm Tm bc hds tgs qc qi qo qs cn vals Nw Nw Kw Kw cd]) (fun _ => wMM g mm b1 b2 b3 b4 b5 b6 b7 b8 b9 b10 b11 b12 b13 b14 b15 b16 b17 kinds ni cm first second An An Tm Tm bc hds tgs qc qi qo qs cn vals Nw Nw Kw Kw cd ++ ([])) rfl rfl rfl (fun _ => rfl) (fun _ => rfl) (fun _ => rfl) (fun _ => rfl) rfl rfl rfl rfl rfl (Nat.le_of_ble_eq_true rfl) dX6_isNoPlace_11 ⟨by decide, by decide⟩ (fun r_4 _ h_3 => ?_)
  subst h_3
  refine v_ifz_eq C 21 dX6_isNoPlace_14 (by decide) (fun h => nomatch h) (fun _ => ?_)
  refine v_iconst C (z := 1) dX6_isNoPlace_17 ?_
  refine v_goto C 22 dX6_isNoPlace_18 (by decide) ?_
  refine v_invVI C (As := [.int (iI (1))]) (q0 := 0) (ci := 6) (kX6_fails_p l g (mm := mm) (b1 := b1) (b2 := b2) (b3 := b3) (b4 := b4) (b5 := b5) (b6 := b6) (b7 := b7) (b8 := b8) (b9 := b9) (b10 := b10) (b11 := b11) (b12 := b12) (b13 := b13) (b14 := b14) (b15 := b15) (b16 := b16) (b17 := b17) (kinds := kinds) (tgs := tgs) (first := first) (second := second) (vals := vals) (qs := qs) (hds := hds) (An := An) (qi := qi) (qo := qo) (Tm := Tm) (Nw := Nw) (Kw := Kw) (ni := ni) (bc := bc) (cm := cm) (cn := cn) (qc := qc) (cd := cd) (ris := ris) (q := 1) (by decide)) (cwV 1 C.2.2.2.2.1 gX6_isNoPlace_X6_fails rfl rfl rfl (by decide +kernel) ⟨Nat.le_of_ble_eq_true rfl, Nat.le_of_ble_eq_true rfl⟩) [wMM g mm b1 b2 b3 b4 b5 b6 b7 b8 b9 b10 b11 b12 b13 b14 b15 b16 b17 kinds ni cm first second An An Tm Tm bc hds tgs qc qi qo qs cn vals Nw Nw Kw Kw cd] [0] [] [] (fun _ => [wMM g mm b1 b2 b3 b4 b5 b6 b7 b8 b9 b10 b11 b12 b13 b14 b15 b16 b17 kinds ni cm first second An An Tm Tm bc hds tgs qc qi qo qs cn vals Nw Nw Kw Kw 1]) (fun _ => wMM g mm b1 b2 b3 b4 b5 b6 b7 b8 b9 b10 b11 b12 b13 b14 b15 b16 b17 kinds ni cm first second An An Tm Tm bc hds tgs qc qi qo qs cn vals Nw Nw Kw Kw 1 ++ ([])) rfl rfl rfl (fun _ => rfl) (fun _ => rfl) (fun _ => rfl) (fun _ => rfl) rfl rfl rfl rfl rfl (Nat.le_of_ble_eq_true rfl) dX6_isNoPlace_22 ⟨by decide, by decide⟩ (fun r_6 _ h_5 => ?_)
  subst h_5
  exact (v_zret C hr hl () (bZ_nar _) (by decide) (by decide) rfl rfl dX6_isNoPlace_25)
set_option maxHeartbeats 4000000 in
set_option maxRecDepth 100000 in
theorem kX6_isNoBranches_in (l : Launch) (g : vG) {mm b1 b2 b3 b4 b5 b6 b7 b8 b9 b10 b11 b12 b13 b14 b15 b16 b17 : Nat} {kinds tgs first second vals qs : Nat → Int} {hds An qi qo Tm Nw Kw ris : Nat → Nat} {ni bc cm cn qc cd : Nat} {i0 j0 : Nat} (h1 : i0 < bc) (h2 : j0 < bc) (hb1 : bc ≤ 100) (hb2 : bc ≤ 100) : mI l g yX6_isNoBranches wsX6_isNoBranches ({ frames := 2, cells := 0, slots := 0, locals := 43 }) [.ref (mm), .int (iI ((i0 : Nat) : Int)), .int (iI ((j0 : Nat) : Int))] (wMM g mm b1 b2 b3 b4 b5 b6 b7 b8 b9 b10 b11 b12 b13 b14 b15 b16 b17 kinds ni cm first second An An Tm Tm bc hds tgs qc qi qo qs cn vals Nw Nw Kw Kw cd ++ ([])) (fun _ : Unit => wMM g mm b1 b2 b3 b4 b5 b6 b7 b8 b9 b10 b11 b12 b13 b14 b15 b16 b17 kinds ni cm first second An An Tm Tm bc hds tgs qc qi qo qs cn vals Nw Nw Kw Kw 0 ++ ([])) (fun v _ => v = iI (bZ false)) 0 0 := by
  refine mI_of (cc := cX6_isNoBranches) (maxL := 3) (ret := (some .boolean)) (own := RX6) (by decide) rfl rfl (Nat.le_of_ble_eq_true rfl) ?_
  intro p e s m args below meth c A C hr hl hin
  refine v_aload_n C dX6_isNoBranches_0 rfl 0 rfl ?_
  refine v_aload_n C dX6_isNoBranches_1 rfl 0 rfl ?_
  refine v_iload_n C dX6_isNoBranches_2 rfl 1 rfl ?_
  refine v_invVI C (As := [.int (iI ((i0 : Nat) : Int))]) (q0 := 0) (ci := 6) (kX6_isNoBranch_in l g (mm := mm) (b1 := b1) (b2 := b2) (b3 := b3) (b4 := b4) (b5 := b5) (b6 := b6) (b7 := b7) (b8 := b8) (b9 := b9) (b10 := b10) (b11 := b11) (b12 := b12) (b13 := b13) (b14 := b14) (b15 := b15) (b16 := b16) (b17 := b17) (kinds := kinds) (tgs := tgs) (first := first) (second := second) (vals := vals) (qs := qs) (hds := hds) (An := An) (qi := qi) (qo := qo) (Tm := Tm) (Nw := Nw) (Kw := Kw) (ni := ni) (bc := bc) (cm := cm) (cn := cn) (qc := qc) (cd := cd) (ris := ris) (i0 := i0) (by omega) (by omega)) (cwV 1 C.2.2.2.2.1 gX6_isNoBranches_X6_isNoBranch rfl rfl rfl (by decide +kernel) ⟨Nat.le_of_ble_eq_true rfl, Nat.le_of_ble_eq_true rfl⟩) [wMM g mm b1 b2 b3 b4 b5 b6 b7 b8 b9 b10 b11 b12 b13 b14 b15 b16 b17 kinds ni cm first second An An Tm Tm bc hds tgs qc qi qo qs cn vals Nw Nw Kw Kw cd] [0] [] [.ref (mm)] (fun _ => [wMM g mm b1 b2 b3 b4 b5 b6 b7 b8 b9 b10 b11 b12 b13 b14 b15 b16 b17 kinds ni cm first second An An Tm Tm bc hds tgs qc qi qo qs cn vals Nw Nw Kw Kw cd]) (fun _ => wMM g mm b1 b2 b3 b4 b5 b6 b7 b8 b9 b10 b11 b12 b13 b14 b15 b16 b17 kinds ni cm first second An An Tm Tm bc hds tgs qc qi qo qs cn vals Nw Nw Kw Kw cd ++ ([])) rfl rfl rfl (fun _ => rfl) (fun _ => rfl) (fun _ => rfl) (fun _ => rfl) rfl rfl rfl rfl rfl (Nat.le_of_ble_eq_true rfl) dX6_isNoBranches_3 ⟨by decide, by decide⟩ (fun r_2 _ h_1 => ?_)
  subst h_1
  refine v_ifz_ne C 17 dX6_isNoBranches_6 (by decide) (fun h => nomatch h) (fun _ => ?_)
  refine v_aload_n C dX6_isNoBranches_9 rfl 0 rfl ?_
  refine v_iload_n C dX6_isNoBranches_10 rfl 2 rfl ?_
  refine v_invVI C (As := [.int (iI ((j0 : Nat) : Int))]) (q0 := 0) (ci := 6) (kX6_isNoBranch_in l g (mm := mm) (b1 := b1) (b2 := b2) (b3 := b3) (b4 := b4) (b5 := b5) (b6 := b6) (b7 := b7) (b8 := b8) (b9 := b9) (b10 := b10) (b11 := b11) (b12 := b12) (b13 := b13) (b14 := b14) (b15 := b15) (b16 := b16) (b17 := b17) (kinds := kinds) (tgs := tgs) (first := first) (second := second) (vals := vals) (qs := qs) (hds := hds) (An := An) (qi := qi) (qo := qo) (Tm := Tm) (Nw := Nw) (Kw := Kw) (ni := ni) (bc := bc) (cm := cm) (cn := cn) (qc := qc) (cd := cd) (ris := ris) (i0 := j0) (by omega) (by omega)) (cwV 1 C.2.2.2.2.1 gX6_isNoBranches_X6_isNoBranch rfl rfl rfl (by decide +kernel) ⟨Nat.le_of_ble_eq_true rfl, Nat.le_of_ble_eq_true rfl⟩) [wMM g mm b1 b2 b3 b4 b5 b6 b7 b8 b9 b10 b11 b12 b13 b14 b15 b16 b17 kinds ni cm first second An An Tm Tm bc hds tgs qc qi qo qs cn vals Nw Nw Kw Kw cd] [0] [] [.ref (mm)] (fun _ => [wMM g mm b1 b2 b3 b4 b5 b6 b7 b8 b9 b10 b11 b12 b13 b14 b15 b16 b17 kinds ni cm first second An An Tm Tm bc hds tgs qc qi qo qs cn vals Nw Nw Kw Kw cd]) (fun _ => wMM g mm b1 b2 b3 b4 b5 b6 b7 b8 b9 b10 b11 b12 b13 b14 b15 b16 b17 kinds ni cm first second An An Tm Tm bc hds tgs qc qi qo qs cn vals Nw Nw Kw Kw cd ++ ([])) rfl rfl rfl (fun _ => rfl) (fun _ => rfl) (fun _ => rfl) (fun _ => rfl) rfl rfl rfl rfl rfl (Nat.le_of_ble_eq_true rfl) dX6_isNoBranches_11 ⟨by decide, by decide⟩ (fun r_4 _ h_3 => ?_)
  subst h_3
  refine v_ifz_eq C 21 dX6_isNoBranches_14 (by decide) (fun _ => ?_) (fun h => nomatch h) 
  refine v_iconst C (z := 0) dX6_isNoBranches_21 ?_
  refine v_invVI C (As := [.int (iI (0))]) (q0 := 0) (ci := 6) (kX6_fails_z l g (mm := mm) (b1 := b1) (b2 := b2) (b3 := b3) (b4 := b4) (b5 := b5) (b6 := b6) (b7 := b7) (b8 := b8) (b9 := b9) (b10 := b10) (b11 := b11) (b12 := b12) (b13 := b13) (b14 := b14) (b15 := b15) (b16 := b16) (b17 := b17) (kinds := kinds) (tgs := tgs) (first := first) (second := second) (vals := vals) (qs := qs) (hds := hds) (An := An) (qi := qi) (qo := qo) (Tm := Tm) (Nw := Nw) (Kw := Kw) (ni := ni) (bc := bc) (cm := cm) (cn := cn) (qc := qc) (cd := cd) (ris := ris)  ) (cwV 1 C.2.2.2.2.1 gX6_isNoBranches_X6_fails rfl rfl rfl (by decide +kernel) ⟨Nat.le_of_ble_eq_true rfl, Nat.le_of_ble_eq_true rfl⟩) [wMM g mm b1 b2 b3 b4 b5 b6 b7 b8 b9 b10 b11 b12 b13 b14 b15 b16 b17 kinds ni cm first second An An Tm Tm bc hds tgs qc qi qo qs cn vals Nw Nw Kw Kw cd] [0] [] [] (fun _ => [wMM g mm b1 b2 b3 b4 b5 b6 b7 b8 b9 b10 b11 b12 b13 b14 b15 b16 b17 kinds ni cm first second An An Tm Tm bc hds tgs qc qi qo qs cn vals Nw Nw Kw Kw 0]) (fun _ => wMM g mm b1 b2 b3 b4 b5 b6 b7 b8 b9 b10 b11 b12 b13 b14 b15 b16 b17 kinds ni cm first second An An Tm Tm bc hds tgs qc qi qo qs cn vals Nw Nw Kw Kw 0 ++ ([])) rfl rfl rfl (fun _ => rfl) (fun _ => rfl) (fun _ => rfl) (fun _ => rfl) rfl rfl rfl rfl rfl (Nat.le_of_ble_eq_true rfl) dX6_isNoBranches_22 ⟨by decide, by decide⟩ (fun r_6 _ h_5 => ?_)
  subst h_5
  exact (v_zret C hr hl () (bZ_nar _) (by decide) (by decide) rfl rfl dX6_isNoBranches_25)
set_option maxHeartbeats 4000000 in
set_option maxRecDepth 100000 in
theorem kX6_isNoBranches_a (l : Launch) (g : vG) {mm b1 b2 b3 b4 b5 b6 b7 b8 b9 b10 b11 b12 b13 b14 b15 b16 b17 : Nat} {kinds tgs first second vals qs : Nat → Int} {hds An qi qo Tm Nw Kw ris : Nat → Nat} {ni bc cm cn qc cd : Nat} {x y : Int} (hx : b31 x) (h1 : ¬ (0 ≤ x ∧ x < ((bc : Nat) : Int))) (hb1 : bc ≤ 100) (hb2 : bc ≤ 100) : mI l g yX6_isNoBranches wsX6_isNoBranches ({ frames := 2, cells := 0, slots := 0, locals := 43 }) [.ref (mm), .int (iI (x)), .int (iI (y))] (wMM g mm b1 b2 b3 b4 b5 b6 b7 b8 b9 b10 b11 b12 b13 b14 b15 b16 b17 kinds ni cm first second An An Tm Tm bc hds tgs qc qi qo qs cn vals Nw Nw Kw Kw cd ++ ([])) (fun _ : Unit => wMM g mm b1 b2 b3 b4 b5 b6 b7 b8 b9 b10 b11 b12 b13 b14 b15 b16 b17 kinds ni cm first second An An Tm Tm bc hds tgs qc qi qo qs cn vals Nw Nw Kw Kw 1 ++ ([])) (fun v _ => v = iI (bZ true)) 0 0 := by
  refine mI_of (cc := cX6_isNoBranches) (maxL := 3) (ret := (some .boolean)) (own := RX6) (by decide) rfl rfl (Nat.le_of_ble_eq_true rfl) ?_
  intro p e s m args below meth c A C hr hl hin
  have hx1 := hx.1
  have hx2 := hx.2
  refine v_aload_n C dX6_isNoBranches_0 rfl 0 rfl ?_
  refine v_aload_n C dX6_isNoBranches_1 rfl 0 rfl ?_
  refine v_iload_n C dX6_isNoBranches_2 rfl 1 rfl ?_
  refine v_invVI C (As := [.int (iI (x))]) (q0 := 0) (ci := 6) (kX6_isNoBranch_out l g (mm := mm) (b1 := b1) (b2 := b2) (b3 := b3) (b4 := b4) (b5 := b5) (b6 := b6) (b7 := b7) (b8 := b8) (b9 := b9) (b10 := b10) (b11 := b11) (b12 := b12) (b13 := b13) (b14 := b14) (b15 := b15) (b16 := b16) (b17 := b17) (kinds := kinds) (tgs := tgs) (first := first) (second := second) (vals := vals) (qs := qs) (hds := hds) (An := An) (qi := qi) (qo := qo) (Tm := Tm) (Nw := Nw) (Kw := Kw) (ni := ni) (bc := bc) (cm := cm) (cn := cn) (qc := qc) (cd := cd) (ris := ris) (x := x) ⟨by omega, by omega⟩ (by omega) (by omega)) (cwV 1 C.2.2.2.2.1 gX6_isNoBranches_X6_isNoBranch rfl rfl rfl (by decide +kernel) ⟨Nat.le_of_ble_eq_true rfl, Nat.le_of_ble_eq_true rfl⟩) [wMM g mm b1 b2 b3 b4 b5 b6 b7 b8 b9 b10 b11 b12 b13 b14 b15 b16 b17 kinds ni cm first second An An Tm Tm bc hds tgs qc qi qo qs cn vals Nw Nw Kw Kw cd] [0] [] [.ref (mm)] (fun _ => [wMM g mm b1 b2 b3 b4 b5 b6 b7 b8 b9 b10 b11 b12 b13 b14 b15 b16 b17 kinds ni cm first second An An Tm Tm bc hds tgs qc qi qo qs cn vals Nw Nw Kw Kw cd]) (fun _ => wMM g mm b1 b2 b3 b4 b5 b6 b7 b8 b9 b10 b11 b12 b13 b14 b15 b16 b17 kinds ni cm first second An An Tm Tm bc hds tgs qc qi qo qs cn vals Nw Nw Kw Kw cd ++ ([])) rfl rfl rfl (fun _ => rfl) (fun _ => rfl) (fun _ => rfl) (fun _ => rfl) rfl rfl rfl rfl rfl (Nat.le_of_ble_eq_true rfl) dX6_isNoBranches_3 ⟨by decide, by decide⟩ (fun r_2 _ h_1 => ?_)
  subst h_1
  refine v_ifz_ne C 17 dX6_isNoBranches_6 (by decide) (fun _ => ?_) (fun h => nomatch h) 
  refine v_iconst C (z := 1) dX6_isNoBranches_17 ?_
  refine v_goto C 22 dX6_isNoBranches_18 (by decide) ?_
  refine v_invVI C (As := [.int (iI (1))]) (q0 := 0) (ci := 6) (kX6_fails_p l g (mm := mm) (b1 := b1) (b2 := b2) (b3 := b3) (b4 := b4) (b5 := b5) (b6 := b6) (b7 := b7) (b8 := b8) (b9 := b9) (b10 := b10) (b11 := b11) (b12 := b12) (b13 := b13) (b14 := b14) (b15 := b15) (b16 := b16) (b17 := b17) (kinds := kinds) (tgs := tgs) (first := first) (second := second) (vals := vals) (qs := qs) (hds := hds) (An := An) (qi := qi) (qo := qo) (Tm := Tm) (Nw := Nw) (Kw := Kw) (ni := ni) (bc := bc) (cm := cm) (cn := cn) (qc := qc) (cd := cd) (ris := ris) (q := 1) (by decide)) (cwV 1 C.2.2.2.2.1 gX6_isNoBranches_X6_fails rfl rfl rfl (by decide +kernel) ⟨Nat.le_of_ble_eq_true rfl, Nat.le_of_ble_eq_true rfl⟩) [wMM g mm b1 b2 b3 b4 b5 b6 b7 b8 b9 b10 b11 b12 b13 b14 b15 b16 b17 kinds ni cm first second An An Tm Tm bc hds tgs qc qi qo qs cn vals Nw Nw Kw Kw cd] [0] [] [] (fun _ => [wMM g mm b1 b2 b3 b4 b5 b6 b7 b8 b9 b10 b11 b12 b13 b14 b15 b16 b17 kinds ni cm first second An An Tm Tm bc hds tgs qc qi qo qs cn vals Nw Nw Kw Kw 1]) (fun _ => wMM g mm b1 b2 b3 b4 b5 b6 b7 b8 b9 b10 b11 b12 b13 b14 b15 b16 b17 kinds ni cm first second An An Tm Tm bc hds tgs qc qi qo qs cn vals Nw Nw Kw Kw 1 ++ ([])) rfl rfl rfl (fun _ => rfl) (fun _ => rfl) (fun _ => rfl) (fun _ => rfl) rfl rfl rfl rfl rfl (Nat.le_of_ble_eq_true rfl) dX6_isNoBranches_22 ⟨by decide, by decide⟩ (fun r_4 _ h_3 => ?_)
  subst h_3
  exact (v_zret C hr hl () (bZ_nar _) (by decide) (by decide) rfl rfl dX6_isNoBranches_25)
set_option maxHeartbeats 4000000 in
set_option maxRecDepth 100000 in
theorem kX6_isNoBranches_b (l : Launch) (g : vG) {mm b1 b2 b3 b4 b5 b6 b7 b8 b9 b10 b11 b12 b13 b14 b15 b16 b17 : Nat} {kinds tgs first second vals qs : Nat → Int} {hds An qi qo Tm Nw Kw ris : Nat → Nat} {ni bc cm cn qc cd : Nat} {i0 : Nat} {y : Int} (h1 : i0 < bc) (hy : b31 y) (h2 : ¬ (0 ≤ y ∧ y < ((bc : Nat) : Int))) (hb1 : bc ≤ 100) (hb2 : bc ≤ 100) : mI l g yX6_isNoBranches wsX6_isNoBranches ({ frames := 2, cells := 0, slots := 0, locals := 43 }) [.ref (mm), .int (iI ((i0 : Nat) : Int)), .int (iI (y))] (wMM g mm b1 b2 b3 b4 b5 b6 b7 b8 b9 b10 b11 b12 b13 b14 b15 b16 b17 kinds ni cm first second An An Tm Tm bc hds tgs qc qi qo qs cn vals Nw Nw Kw Kw cd ++ ([])) (fun _ : Unit => wMM g mm b1 b2 b3 b4 b5 b6 b7 b8 b9 b10 b11 b12 b13 b14 b15 b16 b17 kinds ni cm first second An An Tm Tm bc hds tgs qc qi qo qs cn vals Nw Nw Kw Kw 1 ++ ([])) (fun v _ => v = iI (bZ true)) 0 0 := by
  refine mI_of (cc := cX6_isNoBranches) (maxL := 3) (ret := (some .boolean)) (own := RX6) (by decide) rfl rfl (Nat.le_of_ble_eq_true rfl) ?_
  intro p e s m args below meth c A C hr hl hin
  have hy1 := hy.1
  have hy2 := hy.2
  refine v_aload_n C dX6_isNoBranches_0 rfl 0 rfl ?_
  refine v_aload_n C dX6_isNoBranches_1 rfl 0 rfl ?_
  refine v_iload_n C dX6_isNoBranches_2 rfl 1 rfl ?_
  refine v_invVI C (As := [.int (iI ((i0 : Nat) : Int))]) (q0 := 0) (ci := 6) (kX6_isNoBranch_in l g (mm := mm) (b1 := b1) (b2 := b2) (b3 := b3) (b4 := b4) (b5 := b5) (b6 := b6) (b7 := b7) (b8 := b8) (b9 := b9) (b10 := b10) (b11 := b11) (b12 := b12) (b13 := b13) (b14 := b14) (b15 := b15) (b16 := b16) (b17 := b17) (kinds := kinds) (tgs := tgs) (first := first) (second := second) (vals := vals) (qs := qs) (hds := hds) (An := An) (qi := qi) (qo := qo) (Tm := Tm) (Nw := Nw) (Kw := Kw) (ni := ni) (bc := bc) (cm := cm) (cn := cn) (qc := qc) (cd := cd) (ris := ris) (i0 := i0) (by omega) (by omega)) (cwV 1 C.2.2.2.2.1 gX6_isNoBranches_X6_isNoBranch rfl rfl rfl (by decide +kernel) ⟨Nat.le_of_ble_eq_true rfl, Nat.le_of_ble_eq_true rfl⟩) [wMM g mm b1 b2 b3 b4 b5 b6 b7 b8 b9 b10 b11 b12 b13 b14 b15 b16 b17 kinds ni cm first second An An Tm Tm bc hds tgs qc qi qo qs cn vals Nw Nw Kw Kw cd] [0] [] [.ref (mm)] (fun _ => [wMM g mm b1 b2 b3 b4 b5 b6 b7 b8 b9 b10 b11 b12 b13 b14 b15 b16 b17 kinds ni cm first second An An Tm Tm bc hds tgs qc qi qo qs cn vals Nw Nw Kw Kw cd]) (fun _ => wMM g mm b1 b2 b3 b4 b5 b6 b7 b8 b9 b10 b11 b12 b13 b14 b15 b16 b17 kinds ni cm first second An An Tm Tm bc hds tgs qc qi qo qs cn vals Nw Nw Kw Kw cd ++ ([])) rfl rfl rfl (fun _ => rfl) (fun _ => rfl) (fun _ => rfl) (fun _ => rfl) rfl rfl rfl rfl rfl (Nat.le_of_ble_eq_true rfl) dX6_isNoBranches_3 ⟨by decide, by decide⟩ (fun r_2 _ h_1 => ?_)
  subst h_1
  refine v_ifz_ne C 17 dX6_isNoBranches_6 (by decide) (fun h => nomatch h) (fun _ => ?_)
  refine v_aload_n C dX6_isNoBranches_9 rfl 0 rfl ?_
  refine v_iload_n C dX6_isNoBranches_10 rfl 2 rfl ?_
  refine v_invVI C (As := [.int (iI (y))]) (q0 := 0) (ci := 6) (kX6_isNoBranch_out l g (mm := mm) (b1 := b1) (b2 := b2) (b3 := b3) (b4 := b4) (b5 := b5) (b6 := b6) (b7 := b7) (b8 := b8) (b9 := b9) (b10 := b10) (b11 := b11) (b12 := b12) (b13 := b13) (b14 := b14) (b15 := b15) (b16 := b16) (b17 := b17) (kinds := kinds) (tgs := tgs) (first := first) (second := second) (vals := vals) (qs := qs) (hds := hds) (An := An) (qi := qi) (qo := qo) (Tm := Tm) (Nw := Nw) (Kw := Kw) (ni := ni) (bc := bc) (cm := cm) (cn := cn) (qc := qc) (cd := cd) (ris := ris) (x := y) ⟨by omega, by omega⟩ (by omega) (by omega)) (cwV 1 C.2.2.2.2.1 gX6_isNoBranches_X6_isNoBranch rfl rfl rfl (by decide +kernel) ⟨Nat.le_of_ble_eq_true rfl, Nat.le_of_ble_eq_true rfl⟩) [wMM g mm b1 b2 b3 b4 b5 b6 b7 b8 b9 b10 b11 b12 b13 b14 b15 b16 b17 kinds ni cm first second An An Tm Tm bc hds tgs qc qi qo qs cn vals Nw Nw Kw Kw cd] [0] [] [.ref (mm)] (fun _ => [wMM g mm b1 b2 b3 b4 b5 b6 b7 b8 b9 b10 b11 b12 b13 b14 b15 b16 b17 kinds ni cm first second An An Tm Tm bc hds tgs qc qi qo qs cn vals Nw Nw Kw Kw cd]) (fun _ => wMM g mm b1 b2 b3 b4 b5 b6 b7 b8 b9 b10 b11 b12 b13 b14 b15 b16 b17 kinds ni cm first second An An Tm Tm bc hds tgs qc qi qo qs cn vals Nw Nw Kw Kw cd ++ ([])) rfl rfl rfl (fun _ => rfl) (fun _ => rfl) (fun _ => rfl) (fun _ => rfl) rfl rfl rfl rfl rfl (Nat.le_of_ble_eq_true rfl) dX6_isNoBranches_11 ⟨by decide, by decide⟩ (fun r_4 _ h_3 => ?_)
  subst h_3
  refine v_ifz_eq C 21 dX6_isNoBranches_14 (by decide) (fun h => nomatch h) (fun _ => ?_)
  refine v_iconst C (z := 1) dX6_isNoBranches_17 ?_
  refine v_goto C 22 dX6_isNoBranches_18 (by decide) ?_
  refine v_invVI C (As := [.int (iI (1))]) (q0 := 0) (ci := 6) (kX6_fails_p l g (mm := mm) (b1 := b1) (b2 := b2) (b3 := b3) (b4 := b4) (b5 := b5) (b6 := b6) (b7 := b7) (b8 := b8) (b9 := b9) (b10 := b10) (b11 := b11) (b12 := b12) (b13 := b13) (b14 := b14) (b15 := b15) (b16 := b16) (b17 := b17) (kinds := kinds) (tgs := tgs) (first := first) (second := second) (vals := vals) (qs := qs) (hds := hds) (An := An) (qi := qi) (qo := qo) (Tm := Tm) (Nw := Nw) (Kw := Kw) (ni := ni) (bc := bc) (cm := cm) (cn := cn) (qc := qc) (cd := cd) (ris := ris) (q := 1) (by decide)) (cwV 1 C.2.2.2.2.1 gX6_isNoBranches_X6_fails rfl rfl rfl (by decide +kernel) ⟨Nat.le_of_ble_eq_true rfl, Nat.le_of_ble_eq_true rfl⟩) [wMM g mm b1 b2 b3 b4 b5 b6 b7 b8 b9 b10 b11 b12 b13 b14 b15 b16 b17 kinds ni cm first second An An Tm Tm bc hds tgs qc qi qo qs cn vals Nw Nw Kw Kw cd] [0] [] [] (fun _ => [wMM g mm b1 b2 b3 b4 b5 b6 b7 b8 b9 b10 b11 b12 b13 b14 b15 b16 b17 kinds ni cm first second An An Tm Tm bc hds tgs qc qi qo qs cn vals Nw Nw Kw Kw 1]) (fun _ => wMM g mm b1 b2 b3 b4 b5 b6 b7 b8 b9 b10 b11 b12 b13 b14 b15 b16 b17 kinds ni cm first second An An Tm Tm bc hds tgs qc qi qo qs cn vals Nw Nw Kw Kw 1 ++ ([])) rfl rfl rfl (fun _ => rfl) (fun _ => rfl) (fun _ => rfl) (fun _ => rfl) rfl rfl rfl rfl rfl (Nat.le_of_ble_eq_true rfl) dX6_isNoBranches_22 ⟨by decide, by decide⟩ (fun r_6 _ h_5 => ?_)
  subst h_5
  exact (v_zret C hr hl () (bZ_nar _) (by decide) (by decide) rfl rfl dX6_isNoBranches_25)
theorem inX6_full_6 : ∀ w ∈ u_ws RX6 TX6 23, w ∈ wsX6_full := by decide +kernel
theorem lkX6_full_13 : Cond.fieldLink RX6 13 "MergeAtelierModel" "commits" "I" ∈ wsX6_full := by decide +kernel
set_option maxHeartbeats 4000000 in
set_option maxRecDepth 100000 in
theorem kX6_full_y (l : Launch) (g : vG) {mm b1 b2 b3 b4 b5 b6 b7 b8 b9 b10 b11 b12 b13 b14 b15 b16 b17 : Nat} {kinds tgs first second vals qs : Nat → Int} {hds An qi qo Tm Nw Kw ris : Nat → Nat} {ni bc cm cn qc cd : Nat}  (h : cm = 100) : mI l g yX6_full wsX6_full ({ frames := 0, cells := 0, slots := 0, locals := 0 }) [.ref (mm)] (wMM g mm b1 b2 b3 b4 b5 b6 b7 b8 b9 b10 b11 b12 b13 b14 b15 b16 b17 kinds ni cm first second An An Tm Tm bc hds tgs qc qi qo qs cn vals Nw Nw Kw Kw cd ++ ([])) (fun _ : Unit => wMM g mm b1 b2 b3 b4 b5 b6 b7 b8 b9 b10 b11 b12 b13 b14 b15 b16 b17 kinds ni cm first second An An Tm Tm bc hds tgs qc qi qo qs cn vals Nw Nw Kw Kw cd ++ ([])) (fun v _ => v = iI 1) 0 0 := by
  refine mI_of (cc := cX6_full) (maxL := 1) (ret := (some .int)) (own := RX6) (by decide) rfl rfl (Nat.le_of_ble_eq_true rfl) ?_
  intro p e s m args below meth c A C hr hl hin
  refine v_aload_n C dX6_full_0 rfl 0 rfl ?_
  refine v_get C 0 (kf := 2) rfl rfl (by decide) inX6_full_6 lkX6_full_13 rfl rfl dX6_full_1 ?_
  refine v_bipush C (z := 100) dX6_full_4 rfl ?_
  refine v_icmp_ne C 13 dX6_full_6 (by decide) ⟨by omega, by omega⟩ (b31_lit _ rfl) (fun c_1 => ?_) (fun c_1 => ?_)
  ·
    exfalso; omega
  ·
    refine v_iconst C (z := 1) dX6_full_9 ?_
    refine v_goto C 14 dX6_full_10 (by decide) ?_
    exact (v_iret C hr hl () (by decide) (by decide) rfl rfl dX6_full_14)
set_option maxHeartbeats 4000000 in
set_option maxRecDepth 100000 in
theorem kX6_full_n (l : Launch) (g : vG) {mm b1 b2 b3 b4 b5 b6 b7 b8 b9 b10 b11 b12 b13 b14 b15 b16 b17 : Nat} {kinds tgs first second vals qs : Nat → Int} {hds An qi qo Tm Nw Kw ris : Nat → Nat} {ni bc cm cn qc cd : Nat}  (h : cm < 100) : mI l g yX6_full wsX6_full ({ frames := 0, cells := 0, slots := 0, locals := 0 }) [.ref (mm)] (wMM g mm b1 b2 b3 b4 b5 b6 b7 b8 b9 b10 b11 b12 b13 b14 b15 b16 b17 kinds ni cm first second An An Tm Tm bc hds tgs qc qi qo qs cn vals Nw Nw Kw Kw cd ++ ([])) (fun _ : Unit => wMM g mm b1 b2 b3 b4 b5 b6 b7 b8 b9 b10 b11 b12 b13 b14 b15 b16 b17 kinds ni cm first second An An Tm Tm bc hds tgs qc qi qo qs cn vals Nw Nw Kw Kw cd ++ ([])) (fun v _ => v = iI 0) 0 0 := by
  refine mI_of (cc := cX6_full) (maxL := 1) (ret := (some .int)) (own := RX6) (by decide) rfl rfl (Nat.le_of_ble_eq_true rfl) ?_
  intro p e s m args below meth c A C hr hl hin
  refine v_aload_n C dX6_full_0 rfl 0 rfl ?_
  refine v_get C 0 (kf := 2) rfl rfl (by decide) inX6_full_6 lkX6_full_13 rfl rfl dX6_full_1 ?_
  refine v_bipush C (z := 100) dX6_full_4 rfl ?_
  refine v_icmp_ne C 13 dX6_full_6 (by decide) ⟨by omega, by omega⟩ (b31_lit _ rfl) (fun c_1 => ?_) (fun c_1 => ?_)
  ·
    refine v_iconst C (z := 0) dX6_full_13 ?_
    exact (v_iret C hr hl () (by decide) (by decide) rfl rfl dX6_full_14)
  ·
    exfalso; omega
