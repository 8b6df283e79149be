/-- where a new value goes in the order of the n first places -/
def pIns (vals : Nat → Int) (ris : Nat → Nat) (x : Int) : Nat → Nat
  | 0 => 0
  | n + 1 => if x < vals (ris n) then pIns vals ris x n else n + 1
/-- the places behind q, up to cn, moved by one -/
def shP (ris : Nat → Nat) (cn q : Nat) : Nat → Nat := fun j => if q < j ∧ j ≤ cn then ris (j - 1) else ris j
theorem shP_0 (ris : Nat → Nat) (cn : Nat) : shP ris cn cn = ris := by
  funext j
  exact if_neg (by omega)
theorem shP_s {ris : Nat → Nat} {cn q : Nat} (h0 : 0 < q) (h : q ≤ cn) : updN (shP ris cn q) q (shP ris cn q (q - 1)) = shP ris cn (q - 1) := by
  funext j
  unfold updN shP
  by_cases e : j = q
  · subst e
    rw [if_pos rfl, if_neg (by omega), if_pos ⟨by omega, by omega⟩]
  · rw [if_neg e]
    by_cases e2 : q < j ∧ j ≤ cn
    · rw [if_pos e2, if_pos ⟨by omega, e2.2⟩]
    · rw [if_neg e2, if_neg (by omega)]
theorem shP_lo {ris : Nat → Nat} {cn q j : Nat} (h : j ≤ q) : shP ris cn q j = ris j := if_neg (by omega)
theorem pIns_le (vals : Nat → Int) (ris : Nat → Nat) (x : Int) : ∀ n, pIns vals ris x n ≤ n
  | 0 => Nat.le_refl _
  | n + 1 => by
    show (if _ then _ else _) ≤ _
    by_cases h : x < vals (ris n)
    · rw [if_pos h]
      have := pIns_le vals ris x n
      omega
    · rw [if_neg h]
      exact Nat.le_refl _
theorem pIns_t {vals : Nat → Int} {ris : Nat → Nat} {x : Int} {n : Nat} (h : x < vals (ris n)) : pIns vals ris x (n + 1) = pIns vals ris x n := if_pos h
theorem pIns_f {vals : Nat → Int} {ris : Nat → Nat} {x : Int} {n : Nat} (h : ¬ x < vals (ris n)) : pIns vals ris x (n + 1) = n + 1 := if_neg h
/-- the order with a new number in it -/
def insR (vals : Nat → Int) (ris : Nat → Nat) (x : Int) (cn : Nat) : Nat → Nat := updN (shP ris cn (pIns vals ris x cn)) (pIns vals ris x cn) cn
/-- the first of the n first numbers whose value is x, or n -/
def nOf (vals : Nat → Int) (x : Int) : Nat → Nat
  | 0 => 0
  | n + 1 => if nOf vals x n < n then nOf vals x n else if vals n = x then n else n + 1
theorem nOf_le (vals : Nat → Int) (x : Int) : ∀ n, nOf vals x n ≤ n
  | 0 => Nat.le_refl _
  | n + 1 => by
    show (if _ then _ else _) ≤ _
    have := nOf_le vals x n
    by_cases h : nOf vals x n < n
    · rw [if_pos h]; omega
    · rw [if_neg h]
      by_cases h2 : vals n = x
      · rw [if_pos h2]; omega
      · rw [if_neg h2]; exact Nat.le_refl _
theorem nOf_miss {vals : Nat → Int} {x : Int} {n : Nat} (h : nOf vals x n = n) (h2 : ¬ vals n = x) : nOf vals x (n + 1) = n + 1 := by
  show (if _ then _ else _) = _
  rw [if_neg (by omega), if_neg h2]
theorem nOf_hit {vals : Nat → Int} {x : Int} {n : Nat} (h : nOf vals x n = n) (h2 : vals n = x) : ∀ m, n < m → nOf vals x m = n := by
  intro m
  induction m with
  | zero => exact fun q => absurd q (Nat.not_lt_zero _)
  | succ m ih =>
    intro q
    rcases Nat.lt_or_ge n m with q2 | q2
    · have e := ih q2
      show (if _ then _ else _) = _
      rw [if_pos (by omega), e]
    · have e : n = m := by omega
      subst e
      show (if _ then _ else _) = _
      rw [if_neg (by omega), if_pos h2]
/-- the palette behind a value told -/
def tVals (vals : Nat → Int) (cn : Nat) (x : Int) : Nat → Int := if nOf vals x cn < cn then vals else updZ vals cn x
def tRis (vals : Nat → Int) (ris : Nat → Nat) (cn : Nat) (x : Int) : Nat → Nat := if nOf vals x cn < cn then ris else insR vals ris x cn
def tCn (vals : Nat → Int) (cn : Nat) (x : Int) : Nat := if nOf vals x cn < cn then cn else cn + 1
theorem b31_of {z : Int} (h1 : -1000 ≤ z) (h2 : z ≤ 999) : b31 z := ⟨by omega, by omega⟩
theorem inX1_add_1 : ∀ w ∈ u_ws RX1 TX1 3, w ∈ wsX1_add := by decide +kernel
theorem lkX1_add_18 : Cond.fieldLink RX1 18 "MergeAtelier$Palette" "count" "I" ∈ wsX1_add := by decide +kernel
theorem lkX1_add_15 : Cond.fieldLink RX1 15 "MergeAtelier$Palette" "risingNumbers" "[I" ∈ wsX1_add := by decide +kernel
theorem lkX1_add_9 : Cond.fieldLink RX1 9 "MergeAtelier$Palette" "values" "[I" ∈ wsX1_add := by decide +kernel
set_option maxHeartbeats 4000000 in
set_option maxRecDepth 100000 in
theorem kX1_add (l : Launch) (g : vG) {ta : Nat} {tv tr : Nat} {vals : Nat → Int} {ris : Nat → Nat} {cn : Nat} {x : Int} (hcn : cn < 100) (hx : b31 x) (hv : ∀ k, -1000 ≤ vals k ∧ vals k ≤ 999) (hris : ∀ k, ris k < 100) : mI l g yX1_add wsX1_add ({ frames := 0, cells := 0, slots := 0, locals := 0 }) [.ref (ta), .int (iI (x))] (wPal g ta tv tr vals ris cn ++ ([])) (fun _ : Unit => wPal g ta tv tr (updZ vals cn x) (insR vals ris x cn) (cn + 1) ++ ([])) (fun v _ => v = iI ((cn : Nat) : Int)) 0 0 := by
  refine mI_of (cc := cX1_add) (maxL := 3) (ret := (some .int)) (own := RX1) (by decide) rfl rfl (Nat.le_of_ble_eq_true rfl) ?_
  intro p e s m args below meth c A C hr hl hin
  have hx1 := hx.1
  have hx2 := hx.2
  refine v_aload_n C dX1_add_0 rfl 0 rfl ?_
  refine v_get C 0 (kf := 2) rfl rfl (by decide) inX1_add_1 lkX1_add_18 rfl rfl dX1_add_1 ?_
  refine v_istore_n C [(2, .int (iI ((cn : Nat) : Int))), (0, .ref (ta)), (1, .int (iI (x)))] dX1_add_4 rfl (by decide) rfl ?_
  refine v_lv (lv' := [(0, .ref (ta)), (1, .int (iI (x))), (2, .int (iI ((cn : Nat) : Int)))]) [1, 2, 0] rfl ?_
  refine v_ws (ws' := wPal g ta tv tr vals (shP ris cn cn) cn ++ ([])) (by rw [shP_0]) ?_
  refine v_lp1 (X := Nat) (fun q => wPal g ta tv tr vals (shP ris cn q) cn ++ ([])) (fun q => [(0, .ref (ta)), (1, .int (iI (x))), (2, .int (iI ((q : Nat) : Int)))]) (fun q => q) (fun q => q ≤ cn ∧ pIns vals ris x cn = pIns vals ris x q) ?_ (cn) ⟨Nat.le_refl _, rfl⟩
  intro q hJ5 ih5
  try dsimp only at hJ5 ⊢
  refine v_iload_n C dX1_add_5 rfl 2 rfl ?_
  refine v_if_le C 46 dX1_add_6 (by decide) ⟨by omega, by omega⟩ (fun c_1 => ?_) (fun c_1 => ?_)
  ·
    have pe : pIns vals ris x cn = q := by
      rw [hJ5.2]
      obtain rfl : q = 0 := by omega
      rfl
    refine v_aload_n C dX1_add_46 rfl 0 rfl ?_
    refine v_get C 0 (kf := 1) rfl rfl (by decide) inX1_add_1 lkX1_add_15 rfl rfl dX1_add_47 ?_
    refine v_iload_n C dX1_add_50 rfl 2 rfl ?_
    refine v_aload_n C dX1_add_51 rfl 0 rfl ?_
    refine v_get C 0 (kf := 2) rfl rfl (by decide) inX1_add_1 lkX1_add_18 rfl rfl dX1_add_52 ?_
    refine v_iastn C 2 (q) (wPal g ta tv tr vals (updN (shP ris cn q) (q) (cn)) cn ++ ([])) rfl rfl (by omega) (by decide) dX1_add_55 rfl ?_
    refine v_aload_n C dX1_add_56 rfl 0 rfl ?_
    refine v_get C 0 (kf := 0) rfl rfl (by decide) inX1_add_1 lkX1_add_9 rfl rfl dX1_add_57 ?_
    refine v_aload_n C dX1_add_60 rfl 0 rfl ?_
    refine v_get C 0 (kf := 2) rfl rfl (by decide) inX1_add_1 lkX1_add_18 rfl rfl dX1_add_61 ?_
    refine v_iload_n C dX1_add_64 rfl 1 rfl ?_
    refine v_iast C 1 (cn) (wPal g ta tv tr (updZ vals (cn) (x)) (updN (shP ris cn q) (q) (cn)) cn ++ ([])) rfl rfl (by omega) (by decide) dX1_add_65 rfl ?_
    refine v_aload_n C dX1_add_66 rfl 0 rfl ?_
    refine v_dup C dX1_add_67 rfl ?_
    refine v_get C 0 (kf := 2) rfl rfl (by decide) inX1_add_1 lkX1_add_18 rfl rfl dX1_add_68 ?_
    refine v_iconst C (z := 1) dX1_add_71 ?_
    refine v_iadd C dX1_add_72 ?_
    rw [show (((cn : Nat) : Int)) + 1 = ((cn + 1 : Nat) : Int) from rfl]
    refine v_put C 0 (kf := 2) (wPal g ta tv tr (updZ vals (cn) (x)) (updN (shP ris cn q) (q) (cn)) (cn + 1) ++ ([])) rfl rfl (by decide) inX1_add_1 lkX1_add_18 rfl tyX1_ok nmX1 rfl rfl rfl (Nat.le_of_ble_eq_true rfl) dX1_add_73 rfl ?_
    refine v_aload_n C dX1_add_76 rfl 0 rfl ?_
    refine v_get C 0 (kf := 2) rfl rfl (by decide) inX1_add_1 lkX1_add_18 rfl rfl dX1_add_77 ?_
    refine v_iconst C (z := 1) dX1_add_80 ?_
    refine v_isub C dX1_add_81 ?_
    exact (v_iret C hr hl () (by decide) (by decide) (by unfold insR; rw [pe]) (congrArg iI (by omega)) dX1_add_82)
  ·
    have hq0 : 0 < q := by omega
    have hr9 : shP ris cn q (q - 1) < 100 := by rw [shP_lo (by omega)]; exact hris _
    have hv9 := hv (shP ris cn q (q - 1))
    refine v_aload_n C dX1_add_9 rfl 0 rfl ?_
    refine v_get C 0 (kf := 0) rfl rfl (by decide) inX1_add_1 lkX1_add_9 rfl rfl dX1_add_10 ?_
    refine v_aload_n C dX1_add_13 rfl 0 rfl ?_
    refine v_get C 0 (kf := 1) rfl rfl (by decide) inX1_add_1 lkX1_add_15 rfl rfl dX1_add_14 ?_
    refine v_iload_n C dX1_add_17 rfl 2 rfl ?_
    refine v_iconst C (z := 1) dX1_add_18 ?_
    refine v_isub C dX1_add_19 ?_
    rw [show (((q : Nat) : Int)) - 1 = ((q - 1 : Nat) : Int) by omega]
    refine v_ialdn C 2 (q - 1) rfl rfl (by omega) (by decide) dX1_add_20 ?_
    refine v_iald C 1 ((shP ris cn q) (q - 1)) rfl rfl (by omega) (by decide) dX1_add_21 ?_
    refine v_iload_n C dX1_add_22 rfl 1 rfl ?_
    refine v_icmp_le C 46 dX1_add_23 (by decide) ⟨by omega, by omega⟩ ⟨by omega, by omega⟩ (fun c_2 => ?_) (fun c_2 => ?_)
    ·
      have pe : pIns vals ris x cn = q := by
        rw [hJ5.2]
        have c2 : ¬ x < vals (ris (q - 1)) := by rw [shP_lo (by omega)] at c_2; omega
        have h9 := pIns_f (n := q - 1) c2
        rw [show q - 1 + 1 = q by omega] at h9
        exact h9
      refine v_aload_n C dX1_add_46 rfl 0 rfl ?_
      refine v_get C 0 (kf := 1) rfl rfl (by decide) inX1_add_1 lkX1_add_15 rfl rfl dX1_add_47 ?_
      refine v_iload_n C dX1_add_50 rfl 2 rfl ?_
      refine v_aload_n C dX1_add_51 rfl 0 rfl ?_
      refine v_get C 0 (kf := 2) rfl rfl (by decide) inX1_add_1 lkX1_add_18 rfl rfl dX1_add_52 ?_
      refine v_iastn C 2 (q) (wPal g ta tv tr vals (updN (shP ris cn q) (q) (cn)) cn ++ ([])) rfl rfl (by omega) (by decide) dX1_add_55 rfl ?_
      refine v_aload_n C dX1_add_56 rfl 0 rfl ?_
      refine v_get C 0 (kf := 0) rfl rfl (by decide) inX1_add_1 lkX1_add_9 rfl rfl dX1_add_57 ?_
      refine v_aload_n C dX1_add_60 rfl 0 rfl ?_
      refine v_get C 0 (kf := 2) rfl rfl (by decide) inX1_add_1 lkX1_add_18 rfl rfl dX1_add_61 ?_
      refine v_iload_n C dX1_add_64 rfl 1 rfl ?_
      refine v_iast C 1 (cn) (wPal g ta tv tr (updZ vals (cn) (x)) (updN (shP ris cn q) (q) (cn)) cn ++ ([])) rfl rfl (by omega) (by decide) dX1_add_65 rfl ?_
      refine v_aload_n C dX1_add_66 rfl 0 rfl ?_
      refine v_dup C dX1_add_67 rfl ?_
      refine v_get C 0 (kf := 2) rfl rfl (by decide) inX1_add_1 lkX1_add_18 rfl rfl dX1_add_68 ?_
      refine v_iconst C (z := 1) dX1_add_71 ?_
      refine v_iadd C dX1_add_72 ?_
      rw [show (((cn : Nat) : Int)) + 1 = ((cn + 1 : Nat) : Int) from rfl]
      refine v_put C 0 (kf := 2) (wPal g ta tv tr (updZ vals (cn) (x)) (updN (shP ris cn q) (q) (cn)) (cn + 1) ++ ([])) rfl rfl (by decide) inX1_add_1 lkX1_add_18 rfl tyX1_ok nmX1 rfl rfl rfl (Nat.le_of_ble_eq_true rfl) dX1_add_73 rfl ?_
      refine v_aload_n C dX1_add_76 rfl 0 rfl ?_
      refine v_get C 0 (kf := 2) rfl rfl (by decide) inX1_add_1 lkX1_add_18 rfl rfl dX1_add_77 ?_
      refine v_iconst C (z := 1) dX1_add_80 ?_
      refine v_isub C dX1_add_81 ?_
      exact (v_iret C hr hl () (by decide) (by decide) (by unfold insR; rw [pe]) (congrArg iI (by omega)) dX1_add_82)
    ·
      have pn : pIns vals ris x q = pIns vals ris x (q - 1) := by
        have c2 : x < vals (ris (q - 1)) := by rw [shP_lo (by omega)] at c_2; exact c_2
        have := pIns_t (n := q - 1) c2
        rw [show q - 1 + 1 = q by omega] at this
        exact this
      refine v_aload_n C dX1_add_26 rfl 0 rfl ?_
      refine v_get C 0 (kf := 1) rfl rfl (by decide) inX1_add_1 lkX1_add_15 rfl rfl dX1_add_27 ?_
      refine v_iload_n C dX1_add_30 rfl 2 rfl ?_
      refine v_aload_n C dX1_add_31 rfl 0 rfl ?_
      refine v_get C 0 (kf := 1) rfl rfl (by decide) inX1_add_1 lkX1_add_15 rfl rfl dX1_add_32 ?_
      refine v_iload_n C dX1_add_35 rfl 2 rfl ?_
      refine v_iconst C (z := 1) dX1_add_36 ?_
      refine v_isub C dX1_add_37 ?_
      rw [show (((q : Nat) : Int)) - 1 = ((q - 1 : Nat) : Int) by omega]
      refine v_ialdn C 2 (q - 1) rfl rfl (by omega) (by decide) dX1_add_38 ?_
      refine v_iastn C 2 (q) (wPal g ta tv tr vals (updN (shP ris cn q) (q) ((shP ris cn q) (q - 1))) cn ++ ([])) rfl rfl (by omega) (by decide) dX1_add_39 rfl ?_
      refine v_iinc C [(2, .int (iI (((q : Nat) : Int) + (-1)))), (0, .ref (ta)), (1, .int (iI (x)))] dX1_add_40 2 rfl (by decide) rfl ?_
      refine v_goto C 5 dX1_add_43 (by decide) ?_
      refine v_lv (lv' := [(0, .ref (ta)), (1, .int (iI (x))), (2, .int (iI (((q : Nat) : Int) + (-1))))]) [1, 2, 0] rfl ?_
      rw [show ((q : Nat) : Int) + (-1) = ((q - 1 : Nat) : Int) from (by omega)]
      refine v_ws (ws' := wPal g ta tv tr vals (shP ris cn (q - 1)) cn ++ ([])) (by rw [shP_s (by omega) hJ5.1]) ?_
      exact ih5 (q - 1) ⟨by omega, by rw [hJ5.2]; exact pn⟩ (by omega)
theorem inX1_numberOf_1 : ∀ w ∈ u_ws RX1 TX1 3, w ∈ wsX1_numberOf := by decide +kernel
theorem lkX1_numberOf_18 : Cond.fieldLink RX1 18 "MergeAtelier$Palette" "count" "I" ∈ wsX1_numberOf := by decide +kernel
theorem lkX1_numberOf_9 : Cond.fieldLink RX1 9 "MergeAtelier$Palette" "values" "[I" ∈ wsX1_numberOf := by decide +kernel
set_option maxHeartbeats 4000000 in
set_option maxRecDepth 100000 in
theorem kX1_numberOf (l : Launch) (g : vG) {ta : Nat} {tv tr : Nat} {vals : Nat → Int} {ris : Nat → Nat} {cn : Nat} {x : Int} (hcn : cn < 100) (hx : b31 x) (hv : ∀ k, -1000 ≤ vals k ∧ vals k ≤ 999) (hris : ∀ k, ris k < 100) : mI l g yX1_numberOf wsX1_numberOf ({ frames := 1, cells := 0, slots := 0, locals := 22 }) [.ref (ta), .int (iI (x))] (wPal g ta tv tr vals ris cn ++ ([])) (fun _ : Unit => wPal g ta tv tr (tVals vals cn x) (tRis vals ris cn x) (tCn vals cn x) ++ ([])) (fun v _ => v = iI ((nOf vals x cn : Nat) : Int)) 0 0 := by
  refine mI_of (cc := cX1_numberOf) (maxL := 3) (ret := (some .int)) (own := RX1) (by decide) rfl rfl (Nat.le_of_ble_eq_true rfl) ?_
  intro p e s m args below meth c A C hr hl hin
  have hx1 := hx.1
  have hx2 := hx.2
  refine v_iconst C (z := 0) dX1_numberOf_0 ?_
  refine v_istore_n C [(2, .int (iI (0))), (0, .ref (ta)), (1, .int (iI (x)))] dX1_numberOf_1 rfl (by decide) rfl ?_
  refine v_lv (lv' := [(0, .ref (ta)), (1, .int (iI (x))), (2, .int (iI ((0 : Nat) : Int)))]) [1, 2, 0] rfl ?_
  refine v_lp1 (X := Nat) (fun q => wPal g ta tv tr vals ris cn ++ ([])) (fun q => [(0, .ref (ta)), (1, .int (iI (x))), (2, .int (iI ((q : Nat) : Int)))]) (fun q => cn - q) (fun q => q ≤ cn ∧ nOf vals x q = q) ?_ (0) ⟨Nat.zero_le _, rfl⟩
  intro q hJ2 ih2
  try dsimp only at hJ2 ⊢
  refine v_iload_n C dX1_numberOf_2 rfl 2 rfl ?_
  refine v_aload_n C dX1_numberOf_3 rfl 0 rfl ?_
  refine v_get C 0 (kf := 2) rfl rfl (by decide) inX1_numberOf_1 lkX1_numberOf_18 rfl rfl dX1_numberOf_4 ?_
  refine v_icmp_ge C 28 dX1_numberOf_7 (by decide) ⟨by omega, by omega⟩ ⟨by omega, by omega⟩ (fun c_1 => ?_) (fun c_1 => ?_)
  ·
    obtain rfl : cn = q := by omega
    have hf : ¬ nOf vals x cn < cn := by rw [hJ2.2]; exact Nat.lt_irrefl _
    refine v_aload_n C dX1_numberOf_28 rfl 0 rfl ?_
    refine v_get C 0 (kf := 2) rfl rfl (by decide) inX1_numberOf_1 lkX1_numberOf_18 rfl rfl dX1_numberOf_29 ?_
    refine v_bipush C (z := 100) dX1_numberOf_32 rfl ?_
    refine v_icmp_ge C 45 dX1_numberOf_34 (by decide) ⟨by omega, by omega⟩ (b31_lit _ rfl) (fun c_2 => ?_) (fun c_2 => ?_)
    ·
      exfalso; omega
    ·
      refine v_aload_n C dX1_numberOf_37 rfl 0 rfl ?_
      refine v_iload_n C dX1_numberOf_38 rfl 1 rfl ?_
      refine v_invVI C (As := [.int (iI (x))]) (q0 := 0) (ci := 1) (kX1_add l g (ta := ta) (tv := tv) (tr := tr) (vals := vals) (ris := ris) (cn := cn) (x := x) (by omega) ⟨by omega, by omega⟩ hv hris) (cwV 1 C.2.2.2.2.1 gX1_numberOf_X1_add rfl rfl rfl (by decide +kernel) ⟨Nat.le_of_ble_eq_true rfl, Nat.le_of_ble_eq_true rfl⟩) [wPal g ta tv tr vals ris cn] [0] [] [] (fun _ => [wPal g ta tv tr (updZ vals cn (x)) (insR vals ris (x) cn) (cn + 1)]) (fun _ => wPal g ta tv tr (updZ vals cn (x)) (insR vals ris (x) cn) (cn + 1) ++ ([])) rfl rfl rfl (fun _ => rfl) (fun _ => rfl) (fun _ => rfl) (fun _ => rfl) rfl rfl rfl rfl rfl (Nat.le_of_ble_eq_true rfl) dX1_numberOf_39 ⟨by decide, by decide⟩ (fun r_4 _ h_3 => ?_)
      subst h_3
      refine v_goto C 46 dX1_numberOf_42 (by decide) ?_
      exact (v_iret C hr hl () (by decide) (by decide) (by unfold tVals tRis tCn; rw [if_neg hf, if_neg hf, if_neg hf]) (congrArg iI (by rw [hJ2.2])) dX1_numberOf_46)
  ·
    have hvq := hv q
    refine v_aload_n C dX1_numberOf_10 rfl 0 rfl ?_
    refine v_get C 0 (kf := 0) rfl rfl (by decide) inX1_numberOf_1 lkX1_numberOf_9 rfl rfl dX1_numberOf_11 ?_
    refine v_iload_n C dX1_numberOf_14 rfl 2 rfl ?_
    refine v_iald C 1 (q) rfl rfl (by omega) (by decide) dX1_numberOf_15 ?_
    refine v_iload_n C dX1_numberOf_16 rfl 1 rfl ?_
    refine v_icmp_ne C 22 dX1_numberOf_17 (by decide) ⟨by omega, by omega⟩ ⟨by omega, by omega⟩ (fun c_5 => ?_) (fun c_5 => ?_)
    ·
      refine v_iinc C [(2, .int (iI (((q : Nat) : Int) + 1))), (0, .ref (ta)), (1, .int (iI (x)))] dX1_numberOf_22 2 rfl (by decide) rfl ?_
      rw [show ((q : Nat) : Int) + 1 = ((q + 1 : Nat) : Int) from rfl]
      refine v_goto C 2 dX1_numberOf_25 (by decide) ?_
      refine v_lv (lv' := [(0, .ref (ta)), (1, .int (iI (x))), (2, .int (iI ((q + 1 : Nat) : Int)))]) [1, 2, 0] rfl ?_
      exact ih2 (q + 1) ⟨by omega, nOf_miss hJ2.2 c_5⟩ (by omega)
    ·
      have hf : nOf vals x cn < cn := by rw [nOf_hit hJ2.2 c_5 cn (by omega)]; omega
      refine v_iload_n C dX1_numberOf_20 rfl 2 rfl ?_
      exact (v_iret C hr hl () (by decide) (by decide) (by unfold tVals tRis tCn; rw [if_pos hf, if_pos hf, if_pos hf]) (congrArg iI (by rw [nOf_hit hJ2.2 c_5 cn (by omega)])) dX1_numberOf_21)
