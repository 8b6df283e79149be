abbrev rI100 (g : vG) (a : Nat) (f : Nat → Int) : va_W := [cI g a 100 f]
abbrev rI10 (g : vG) (a : Nat) (f : Nat → Int) : va_W := [cI g a 10 f]
abbrev rI5 (g : vG) (a : Nat) (f : Nat → Int) : va_W := [cI g a 5 f]
abbrev rC12 (g : vG) (a : Nat) (f : Nat → Int) : va_W := [cC g a 12 f]
abbrev rL100 (g : vG) (a : Nat) (f : Nat → Int64) : va_W := [cL g a 100 f]
abbrev rL1224 (g : vG) (a : Nat) (f : Nat → Int64) : va_W := [cL g a 1224 f]
abbrev nX0 (g : vG) (a : Nat) (x0 : Value) (x1 : Value) (x2 : Value) (x3 : Value) (x4 : Value) (x5 : Value) (x6 : Value) (x7 : Value) (x8 : Value) (x9 : Value) : va_W := [cO a 0 [x0, x1, x2, x3, x4, x5, x6, x7, x8, x9]]
abbrev nX1 (g : vG) (a : Nat) (x0 : Value) (x1 : Value) (x2 : Value) : va_W := [cO a 1 [x0, x1, x2]]
abbrev nX2 (g : vG) (a : Nat) (x0 : Value) (x1 : Value) (x2 : Value) (x3 : Value) : va_W := [cO a 2 [x0, x1, x2, x3]]
abbrev nX3 (g : vG) (a : Nat) (x0 : Value) (x1 : Value) : va_W := [cO a 3 [x0, x1]]
abbrev nX4 (g : vG) (a : Nat) (x0 : Value) (x1 : Value) (x2 : Value) : va_W := [cO a 4 [x0, x1, x2]]
abbrev nX5 (g : vG) (a : Nat) (x0 : Value) (x1 : Value) (x2 : Value) (x3 : Value) (x4 : Value) (x5 : Value) (x6 : Value) (x7 : Value) (x8 : Value) (x9 : Value) (x10 : Value) : va_W := [cO a 5 [x0, x1, x2, x3, x4, x5, x6, x7, x8, x9, x10]]
theorem xl_0 : xl (fun _ => 0) = fun _ => 0 := funext fun _ => (by decide : lN 0 = 0)
theorem xh_0 : xh (fun _ => 0) = fun _ => 0 := funext fun _ => (by decide : hN 0 = 0)
def uF (l : List Nat) : Nat → Nat := fun k => (l[k]?).getD 0
theorem oaX1_init : Cond.methodLink RX1 3 objectInit ∈ wsX1_init := by decide +kernel
theorem obX1_init : Cond.instanceMethod objectInit ∈ wsX1_init := by decide +kernel
theorem ocX1_init : Cond.code objectInit ⟨#[0xb1]⟩ 1 none ∈ wsX1_init := by decide +kernel
theorem arX1_init_I : Cond.arrayClass .int ∈ wsX1_init := by decide +kernel
theorem inX1_init_1 : ∀ w ∈ u_ws RX1 TX1 3, w ∈ wsX1_init := by decide +kernel
theorem lkX1_init_9 : Cond.fieldLink RX1 9 "MergeAtelier$Palette" "values" "[I" ∈ wsX1_init := by decide +kernel
theorem lkX1_init_15 : Cond.fieldLink RX1 15 "MergeAtelier$Palette" "risingNumbers" "[I" ∈ wsX1_init := by decide +kernel
theorem lkX1_init_18 : Cond.fieldLink RX1 18 "MergeAtelier$Palette" "count" "I" ∈ wsX1_init := by decide +kernel
set_option maxHeartbeats 4000000 in
set_option maxRecDepth 100000 in
theorem kX1_init (l : Launch) (g : vG) {ta : Nat}  : mV l g yX1_init wsX1_init ({ frames := 1, cells := 2, slots := 200, locals := 20 }) [.ref (ta)] (nX1 g ta .null .null (.int 0) ++ ([])) (fun u : Nat → Nat => wPal g ta ((u 0)) ((u 1)) ((updZ (fun _ => 0) 0 (-1000))) ((fun _ => 0)) 1 ++ ([])) (fun _ => True) 2 200 := by
  refine mV_of (cc := cX1_init) (maxL := 1) (ret := none) (own := RX1) (by decide) rfl rfl (Nat.le_of_ble_eq_true rfl) ?_
  intro p e s m args below meth c A C hr hl hin
  refine v_aload_n C dX1_init_0 rfl 0 rfl ?_
  refine v_objI C oaX1_init obX1_init ocX1_init dX1_init_1 (Nat.le_of_ble_eq_true rfl) (Nat.le_of_ble_eq_true rfl) ?_
  refine v_aload_n C dX1_init_4 rfl 0 rfl ?_
  refine v_bipush C (z := 100) dX1_init_5 rfl ?_
  refine v_newaI C 100 (fun q_1 => nX1 g ta .null .null (.int 0) ++ (rI100 g q_1 ((fun _ => 0)) ++ ([]))) arX1_init_I rfl (Nat.le_of_ble_eq_true rfl) (Nat.le_of_ble_eq_true rfl) (Nat.le_of_ble_eq_true rfl) dX1_init_7 (fun _ => rfl) ?_
  intro q_1
  refine v_putF C 0 (kf := 0) (nX1 g ta (.ref (q_1)) .null (.int 0) ++ (rI100 g q_1 ((fun _ => 0)) ++ ([]))) rfl rfl (by decide) inX1_init_1 lkX1_init_9 rfl tyX1_ok nmX1 rfl hin rfl rfl rfl (Nat.le_of_ble_eq_true rfl) dX1_init_9 rfl ?_
  refine v_aload_n C dX1_init_12 rfl 0 rfl ?_
  refine v_bipush C (z := 100) dX1_init_13 rfl ?_
  refine v_newaI C 100 (fun q_2 => nX1 g ta (.ref (q_1)) .null (.int 0) ++ (rI100 g q_1 ((fun _ => 0)) ++ (rI100 g q_2 ((fun _ => 0)) ++ ([])))) arX1_init_I rfl (Nat.le_of_ble_eq_true rfl) (Nat.le_of_ble_eq_true rfl) (Nat.le_of_ble_eq_true rfl) dX1_init_15 (fun _ => rfl) ?_
  intro q_2
  refine v_putF C 0 (kf := 1) (nX1 g ta (.ref (q_1)) (.ref (q_2)) (.int 0) ++ (rI100 g q_1 ((fun _ => 0)) ++ (rI100 g q_2 ((fun _ => 0)) ++ ([])))) rfl rfl (by decide) inX1_init_1 lkX1_init_15 rfl tyX1_ok nmX1 rfl hin rfl rfl rfl (Nat.le_of_ble_eq_true rfl) dX1_init_17 rfl ?_
  refine v_aload_n C dX1_init_20 rfl 0 rfl ?_
  refine v_get C 0 (kf := 0) rfl rfl (by decide) inX1_init_1 lkX1_init_9 rfl rfl dX1_init_21 ?_
  refine v_iconst C (z := 0) dX1_init_24 ?_
  refine v_sipush C (z := -1000) dX1_init_25 rfl ?_
  refine v_iast C 1 (0) (nX1 g ta (.ref (q_1)) (.ref (q_2)) (.int 0) ++ (rI100 g q_1 (updZ ((fun _ => 0)) (0) (-1000)) ++ (rI100 g q_2 ((fun _ => 0)) ++ ([])))) rfl rfl (by decide) (by decide) dX1_init_28 rfl ?_
  refine v_aload_n C dX1_init_29 rfl 0 rfl ?_
  refine v_iconst C (z := 1) dX1_init_30 ?_
  refine v_put C 0 (kf := 2) (nX1 g ta (.ref (q_1)) (.ref (q_2)) (.int (iI (1))) ++ (rI100 g q_1 (updZ ((fun _ => 0)) (0) (-1000)) ++ (rI100 g q_2 ((fun _ => 0)) ++ ([])))) rfl rfl (by decide) inX1_init_1 lkX1_init_18 rfl tyX1_ok nmX1 rfl rfl rfl (Nat.le_of_ble_eq_true rfl) dX1_init_31 rfl ?_
  exact (v_vret C hr hl (uF [q_1, q_2]) (by decide) (by decide) rfl trivial dX1_init_34)
theorem oaX2_init : Cond.methodLink RX2 3 objectInit ∈ wsX2_init := by decide +kernel
theorem obX2_init : Cond.instanceMethod objectInit ∈ wsX2_init := by decide +kernel
theorem ocX2_init : Cond.code objectInit ⟨#[0xb1]⟩ 1 none ∈ wsX2_init := by decide +kernel
theorem arX2_init_I : Cond.arrayClass .int ∈ wsX2_init := by decide +kernel
theorem inX2_init_2 : ∀ w ∈ u_ws RX2 TX2 4, w ∈ wsX2_init := by decide +kernel
theorem lkX2_init_9 : Cond.fieldLink RX2 9 "MergeAtelier$Quotes" "items" "[I" ∈ wsX2_init := by decide +kernel
theorem lkX2_init_15 : Cond.fieldLink RX2 15 "MergeAtelier$Quotes" "others" "[I" ∈ wsX2_init := by decide +kernel
theorem lkX2_init_18 : Cond.fieldLink RX2 18 "MergeAtelier$Quotes" "shifts" "[I" ∈ wsX2_init := by decide +kernel
set_option maxHeartbeats 4000000 in
set_option maxRecDepth 100000 in
theorem kX2_init (l : Launch) (g : vG) {qa : Nat}  : mV l g yX2_init wsX2_init ({ frames := 1, cells := 3, slots := 30, locals := 20 }) [.ref (qa)] (nX2 g qa .null .null .null (.int 0) ++ ([])) (fun u : Nat → Nat => wQuo g qa ((u 0)) ((u 1)) ((u 2)) ((fun _ => 0)) ((fun _ => 0)) ((fun _ => 0)) 0 ++ ([])) (fun _ => True) 3 30 := by
  refine mV_of (cc := cX2_init) (maxL := 1) (ret := none) (own := RX2) (by decide) rfl rfl (Nat.le_of_ble_eq_true rfl) ?_
  intro p e s m args below meth c A C hr hl hin
  refine v_aload_n C dX2_init_0 rfl 0 rfl ?_
  refine v_objI C oaX2_init obX2_init ocX2_init dX2_init_1 (Nat.le_of_ble_eq_true rfl) (Nat.le_of_ble_eq_true rfl) ?_
  refine v_aload_n C dX2_init_4 rfl 0 rfl ?_
  refine v_bipush C (z := 10) dX2_init_5 rfl ?_
  refine v_newaI C 10 (fun q_1 => nX2 g qa .null .null .null (.int 0) ++ (rI10 g q_1 ((fun _ => 0)) ++ ([]))) arX2_init_I rfl (Nat.le_of_ble_eq_true rfl) (Nat.le_of_ble_eq_true rfl) (Nat.le_of_ble_eq_true rfl) dX2_init_7 (fun _ => rfl) ?_
  intro q_1
  refine v_putF C 0 (kf := 0) (nX2 g qa (.ref (q_1)) .null .null (.int 0) ++ (rI10 g q_1 ((fun _ => 0)) ++ ([]))) rfl rfl (by decide) inX2_init_2 lkX2_init_9 rfl tyX2_ok nmX2 rfl hin rfl rfl rfl (Nat.le_of_ble_eq_true rfl) dX2_init_9 rfl ?_
  refine v_aload_n C dX2_init_12 rfl 0 rfl ?_
  refine v_bipush C (z := 10) dX2_init_13 rfl ?_
  refine v_newaI C 10 (fun q_2 => nX2 g qa (.ref (q_1)) .null .null (.int 0) ++ (rI10 g q_1 ((fun _ => 0)) ++ (rI10 g q_2 ((fun _ => 0)) ++ ([])))) arX2_init_I rfl (Nat.le_of_ble_eq_true rfl) (Nat.le_of_ble_eq_true rfl) (Nat.le_of_ble_eq_true rfl) dX2_init_15 (fun _ => rfl) ?_
  intro q_2
  refine v_putF C 0 (kf := 1) (nX2 g qa (.ref (q_1)) (.ref (q_2)) .null (.int 0) ++ (rI10 g q_1 ((fun _ => 0)) ++ (rI10 g q_2 ((fun _ => 0)) ++ ([])))) rfl rfl (by decide) inX2_init_2 lkX2_init_15 rfl tyX2_ok nmX2 rfl hin rfl rfl rfl (Nat.le_of_ble_eq_true rfl) dX2_init_17 rfl ?_
  refine v_aload_n C dX2_init_20 rfl 0 rfl ?_
  refine v_bipush C (z := 10) dX2_init_21 rfl ?_
  refine v_newaI C 10 (fun q_3 => nX2 g qa (.ref (q_1)) (.ref (q_2)) .null (.int 0) ++ (rI10 g q_1 ((fun _ => 0)) ++ (rI10 g q_2 ((fun _ => 0)) ++ (rI10 g q_3 ((fun _ => 0)) ++ ([]))))) arX2_init_I rfl (Nat.le_of_ble_eq_true rfl) (Nat.le_of_ble_eq_true rfl) (Nat.le_of_ble_eq_true rfl) dX2_init_23 (fun _ => rfl) ?_
  intro q_3
  refine v_putF C 0 (kf := 2) (nX2 g qa (.ref (q_1)) (.ref (q_2)) (.ref (q_3)) (.int 0) ++ (rI10 g q_1 ((fun _ => 0)) ++ (rI10 g q_2 ((fun _ => 0)) ++ (rI10 g q_3 ((fun _ => 0)) ++ ([]))))) rfl rfl (by decide) inX2_init_2 lkX2_init_18 rfl tyX2_ok nmX2 rfl hin rfl rfl rfl (Nat.le_of_ble_eq_true rfl) dX2_init_25 rfl ?_
  exact (v_vret C hr hl (uF [q_1, q_2, q_3]) (by decide) (by decide) rfl trivial dX2_init_28)
theorem oaX3_init : Cond.methodLink RX3 3 objectInit ∈ wsX3_init := by decide +kernel
theorem obX3_init : Cond.instanceMethod objectInit ∈ wsX3_init := by decide +kernel
theorem ocX3_init : Cond.code objectInit ⟨#[0xb1]⟩ 1 none ∈ wsX3_init := by decide +kernel
theorem inX3_init_3 : ∀ w ∈ u_ws RX3 TX3 2, w ∈ wsX3_init := by decide +kernel
theorem lkX3_init_9 : Cond.fieldLink RX3 9 "MergeAtelier$Scribe" "log" "LMergeAtelier$Log;" ∈ wsX3_init := by decide +kernel
theorem lkX3_init_15 : Cond.fieldLink RX3 15 "MergeAtelier$Scribe" "quotes" "LMergeAtelier$Quotes;" ∈ wsX3_init := by decide +kernel
set_option maxHeartbeats 4000000 in
set_option maxRecDepth 100000 in
theorem kX3_init (l : Launch) (g : vG) {sa la qa : Nat}  : mV l g yX3_init wsX3_init ({ frames := 1, cells := 0, slots := 0, locals := 20 }) [.ref (sa), .ref (la), .ref (qa)] (nX3 g sa .null .null ++ ([])) (fun u : Nat → Nat => wScr g sa la qa ++ ([])) (fun _ => True) 0 0 := by
  refine mV_of (cc := cX3_init) (maxL := 3) (ret := none) (own := RX3) (by decide) rfl rfl (Nat.le_of_ble_eq_true rfl) ?_
  intro p e s m args below meth c A C hr hl hin
  refine v_aload_n C dX3_init_0 rfl 0 rfl ?_
  refine v_objI C oaX3_init obX3_init ocX3_init dX3_init_1 (Nat.le_of_ble_eq_true rfl) (Nat.le_of_ble_eq_true rfl) ?_
  refine v_aload_n C dX3_init_4 rfl 0 rfl ?_
  refine v_aload_n C dX3_init_5 rfl 1 rfl ?_
  refine v_putF C 0 (kf := 0) (nX3 g sa (.ref (la)) .null ++ ([])) rfl rfl (by decide) inX3_init_3 lkX3_init_9 rfl tyX3_ok nmX3 rfl hin rfl rfl rfl (Nat.le_of_ble_eq_true rfl) dX3_init_6 rfl ?_
  refine v_aload_n C dX3_init_9 rfl 0 rfl ?_
  refine v_aload_n C dX3_init_10 rfl 2 rfl ?_
  refine v_putF C 0 (kf := 1) (nX3 g sa (.ref (la)) (.ref (qa)) ++ ([])) rfl rfl (by decide) inX3_init_3 lkX3_init_15 rfl tyX3_ok nmX3 rfl hin rfl rfl rfl (Nat.le_of_ble_eq_true rfl) dX3_init_11 rfl ?_
  exact (v_vret C hr hl (uF []) (by decide) (by decide) rfl trivial dX3_init_14)
theorem oaX4_init : Cond.methodLink RX4 3 objectInit ∈ wsX4_init := by decide +kernel
theorem obX4_init : Cond.instanceMethod objectInit ∈ wsX4_init := by decide +kernel
theorem ocX4_init : Cond.code objectInit ⟨#[0xb1]⟩ 1 none ∈ wsX4_init := by decide +kernel
theorem inX4_init_4 : ∀ w ∈ u_ws RX4 TX4 3, w ∈ wsX4_init := by decide +kernel
theorem lkX4_init_9 : Cond.fieldLink RX4 9 "MergeAtelier$Table" "palette" "LMergeAtelier$Palette;" ∈ wsX4_init := by decide +kernel
theorem arX4_init_L : Cond.arrayClass .long ∈ wsX4_init := by decide +kernel
theorem lkX4_init_15 : Cond.fieldLink RX4 15 "MergeAtelier$Table" "low" "[J" ∈ wsX4_init := by decide +kernel
theorem lkX4_init_19 : Cond.fieldLink RX4 19 "MergeAtelier$Table" "high" "[J" ∈ wsX4_init := by decide +kernel
set_option maxHeartbeats 4000000 in
set_option maxRecDepth 100000 in
theorem kX4_init (l : Launch) (g : vG) {ta tp : Nat}  : mV l g yX4_init wsX4_init ({ frames := 1, cells := 2, slots := 2448, locals := 20 }) [.ref (ta), .ref (tp)] (nX4 g ta .null .null .null ++ ([])) (fun u : Nat → Nat => wTab g ta tp ((u 0)) ((u 1)) ((fun _ => 0)) ((fun _ => 0)) ++ ([])) (fun _ => True) 2 2448 := by
  refine mV_of (cc := cX4_init) (maxL := 2) (ret := none) (own := RX4) (by decide) rfl rfl (Nat.le_of_ble_eq_true rfl) ?_
  intro p e s m args below meth c A C hr hl hin
  refine v_aload_n C dX4_init_0 rfl 0 rfl ?_
  refine v_objI C oaX4_init obX4_init ocX4_init dX4_init_1 (Nat.le_of_ble_eq_true rfl) (Nat.le_of_ble_eq_true rfl) ?_
  refine v_aload_n C dX4_init_4 rfl 0 rfl ?_
  refine v_aload_n C dX4_init_5 rfl 1 rfl ?_
  refine v_putF C 0 (kf := 0) (nX4 g ta (.ref (tp)) .null .null ++ ([])) rfl rfl (by decide) inX4_init_4 lkX4_init_9 rfl tyX4_ok nmX4 rfl hin rfl rfl rfl (Nat.le_of_ble_eq_true rfl) dX4_init_6 rfl ?_
  refine v_aload_n C dX4_init_9 rfl 0 rfl ?_
  refine v_sipush C (z := 1224) dX4_init_10 rfl ?_
  refine v_newaL C 1224 (fun q_1 => nX4 g ta (.ref (tp)) .null .null ++ (rL1224 g q_1 ((fun _ => 0)) ++ ([]))) arX4_init_L rfl (Nat.le_of_ble_eq_true rfl) (Nat.le_of_ble_eq_true rfl) (Nat.le_of_ble_eq_true rfl) dX4_init_13 (fun _ => rfl) ?_
  intro q_1
  refine v_putF C 0 (kf := 1) (nX4 g ta (.ref (tp)) (.ref (q_1)) .null ++ (rL1224 g q_1 ((fun _ => 0)) ++ ([]))) rfl rfl (by decide) inX4_init_4 lkX4_init_15 rfl tyX4_ok nmX4 rfl hin rfl rfl rfl (Nat.le_of_ble_eq_true rfl) dX4_init_15 rfl ?_
  refine v_aload_n C dX4_init_18 rfl 0 rfl ?_
  refine v_sipush C (z := 1224) dX4_init_19 rfl ?_
  refine v_newaL C 1224 (fun q_2 => nX4 g ta (.ref (tp)) (.ref (q_1)) .null ++ (rL1224 g q_1 ((fun _ => 0)) ++ (rL1224 g q_2 ((fun _ => 0)) ++ ([])))) arX4_init_L rfl (Nat.le_of_ble_eq_true rfl) (Nat.le_of_ble_eq_true rfl) (Nat.le_of_ble_eq_true rfl) dX4_init_22 (fun _ => rfl) ?_
  intro q_2
  refine v_putF C 0 (kf := 2) (nX4 g ta (.ref (tp)) (.ref (q_1)) (.ref (q_2)) ++ (rL1224 g q_1 ((fun _ => 0)) ++ (rL1224 g q_2 ((fun _ => 0)) ++ ([])))) rfl rfl (by decide) inX4_init_4 lkX4_init_19 rfl tyX4_ok nmX4 rfl hin rfl rfl rfl (Nat.le_of_ble_eq_true rfl) dX4_init_24 rfl ?_
  exact (v_vret C hr hl (uF [q_1, q_2]) (by decide) (by decide) (by unfold wTab; rw [xl_0, xh_0] <;> rfl) trivial dX4_init_27)
theorem oaX0_init : Cond.methodLink RX0 3 objectInit ∈ wsX0_init := by decide +kernel
theorem obX0_init : Cond.instanceMethod objectInit ∈ wsX0_init := by decide +kernel
theorem ocX0_init : Cond.code objectInit ⟨#[0xb1]⟩ 1 none ∈ wsX0_init := by decide +kernel
theorem arX0_init_I : Cond.arrayClass .int ∈ wsX0_init := by decide +kernel
theorem inX0_init_0 : ∀ w ∈ u_ws RX0 TX0 10, w ∈ wsX0_init := by decide +kernel
theorem lkX0_init_9 : Cond.fieldLink RX0 9 "MergeAtelier$Log" "deed" "[I" ∈ wsX0_init := by decide +kernel
theorem lkX0_init_15 : Cond.fieldLink RX0 15 "MergeAtelier$Log" "first" "[I" ∈ wsX0_init := by decide +kernel
theorem lkX0_init_18 : Cond.fieldLink RX0 18 "MergeAtelier$Log" "second" "[I" ∈ wsX0_init := by decide +kernel
theorem lkX0_init_21 : Cond.fieldLink RX0 21 "MergeAtelier$Log" "item" "[I" ∈ wsX0_init := by decide +kernel
theorem lkX0_init_24 : Cond.fieldLink RX0 24 "MergeAtelier$Log" "side" "[I" ∈ wsX0_init := by decide +kernel
theorem lkX0_init_27 : Cond.fieldLink RX0 27 "MergeAtelier$Log" "picked" "[I" ∈ wsX0_init := by decide +kernel
theorem lkX0_init_30 : Cond.fieldLink RX0 30 "MergeAtelier$Log" "quoteCount" "[I" ∈ wsX0_init := by decide +kernel
theorem arX0_init_L : Cond.arrayClass .long ∈ wsX0_init := by decide +kernel
theorem lkX0_init_33 : Cond.fieldLink RX0 33 "MergeAtelier$Log" "lowAncestors" "[J" ∈ wsX0_init := by decide +kernel
theorem lkX0_init_37 : Cond.fieldLink RX0 37 "MergeAtelier$Log" "highAncestors" "[J" ∈ wsX0_init := by decide +kernel
set_option maxHeartbeats 4000000 in
set_option maxRecDepth 100000 in
theorem kX0_init (l : Launch) (g : vG) {la : Nat}  : mV l g yX0_init wsX0_init ({ frames := 2, cells := 9, slots := 900, locals := 46 }) [.ref (la)] (nX0 g la .null .null .null .null .null .null .null .null .null (.int 0) ++ ([])) (fun u : Nat → Nat => wLog g la ((u 0)) ((u 1)) ((u 2)) ((u 3)) ((u 4)) ((u 5)) ((u 6)) ((u 7)) ((u 8)) (updN ((fun _ => 0)) (0) (0)) (updZ ((fun _ => 0)) (0) (-1)) (updZ ((fun _ => 0)) (0) (-1)) ((fun _ => 0)) ((fun _ => 0)) ((fun _ => 0)) ((fun _ => 0)) (updN ((fun _ => 0)) (0) (2 ^ 0)) (updN ((fun _ => 0)) (0) (2 ^ 0)) (0 + 1) ++ ([])) (fun _ => True) 9 900 := by
  refine mV_of (cc := cX0_init) (maxL := 1) (ret := none) (own := RX0) (by decide) rfl rfl (Nat.le_of_ble_eq_true rfl) ?_
  intro p e s m args below meth c A C hr hl hin
  refine v_aload_n C dX0_init_0 rfl 0 rfl ?_
  refine v_objI C oaX0_init obX0_init ocX0_init dX0_init_1 (Nat.le_of_ble_eq_true rfl) (Nat.le_of_ble_eq_true rfl) ?_
  refine v_aload_n C dX0_init_4 rfl 0 rfl ?_
  refine v_bipush C (z := 100) dX0_init_5 rfl ?_
  refine v_newaI C 100 (fun q_1 => nX0 g la .null .null .null .null .null .null .null .null .null (.int 0) ++ (rI100 g q_1 ((fun _ => 0)) ++ ([]))) arX0_init_I rfl (Nat.le_of_ble_eq_true rfl) (Nat.le_of_ble_eq_true rfl) (Nat.le_of_ble_eq_true rfl) dX0_init_7 (fun _ => rfl) ?_
  intro q_1
  refine v_putF C 0 (kf := 0) (nX0 g la (.ref (q_1)) .null .null .null .null .null .null .null .null (.int 0) ++ (rI100 g q_1 ((fun _ => 0)) ++ ([]))) rfl rfl (by decide) inX0_init_0 lkX0_init_9 rfl tyX0_ok nmX0 rfl hin rfl rfl rfl (Nat.le_of_ble_eq_true rfl) dX0_init_9 rfl ?_
  refine v_aload_n C dX0_init_12 rfl 0 rfl ?_
  refine v_bipush C (z := 100) dX0_init_13 rfl ?_
  refine v_newaI C 100 (fun q_2 => nX0 g la (.ref (q_1)) .null .null .null .null .null .null .null .null (.int 0) ++ (rI100 g q_1 ((fun _ => 0)) ++ (rI100 g q_2 ((fun _ => 0)) ++ ([])))) arX0_init_I rfl (Nat.le_of_ble_eq_true rfl) (Nat.le_of_ble_eq_true rfl) (Nat.le_of_ble_eq_true rfl) dX0_init_15 (fun _ => rfl) ?_
  intro q_2
  refine v_putF C 0 (kf := 1) (nX0 g la (.ref (q_1)) (.ref (q_2)) .null .null .null .null .null .null .null (.int 0) ++ (rI100 g q_1 ((fun _ => 0)) ++ (rI100 g q_2 ((fun _ => 0)) ++ ([])))) rfl rfl (by decide) inX0_init_0 lkX0_init_15 rfl tyX0_ok nmX0 rfl hin rfl rfl rfl (Nat.le_of_ble_eq_true rfl) dX0_init_17 rfl ?_
  refine v_aload_n C dX0_init_20 rfl 0 rfl ?_
  refine v_bipush C (z := 100) dX0_init_21 rfl ?_
  refine v_newaI C 100 (fun q_3 => nX0 g la (.ref (q_1)) (.ref (q_2)) .null .null .null .null .null .null .null (.int 0) ++ (rI100 g q_1 ((fun _ => 0)) ++ (rI100 g q_2 ((fun _ => 0)) ++ (rI100 g q_3 ((fun _ => 0)) ++ ([]))))) arX0_init_I rfl (Nat.le_of_ble_eq_true rfl) (Nat.le_of_ble_eq_true rfl) (Nat.le_of_ble_eq_true rfl) dX0_init_23 (fun _ => rfl) ?_
  intro q_3
  refine v_putF C 0 (kf := 2) (nX0 g la (.ref (q_1)) (.ref (q_2)) (.ref (q_3)) .null .null .null .null .null .null (.int 0) ++ (rI100 g q_1 ((fun _ => 0)) ++ (rI100 g q_2 ((fun _ => 0)) ++ (rI100 g q_3 ((fun _ => 0)) ++ ([]))))) rfl rfl (by decide) inX0_init_0 lkX0_init_18 rfl tyX0_ok nmX0 rfl hin rfl rfl rfl (Nat.le_of_ble_eq_true rfl) dX0_init_25 rfl ?_
  refine v_aload_n C dX0_init_28 rfl 0 rfl ?_
  refine v_bipush C (z := 100) dX0_init_29 rfl ?_
  refine v_newaI C 100 (fun q_4 => nX0 g la (.ref (q_1)) (.ref (q_2)) (.ref (q_3)) .null .null .null .null .null .null (.int 0) ++ (rI100 g q_1 ((fun _ => 0)) ++ (rI100 g q_2 ((fun _ => 0)) ++ (rI100 g q_3 ((fun _ => 0)) ++ (rI100 g q_4 ((fun _ => 0)) ++ ([])))))) arX0_init_I rfl (Nat.le_of_ble_eq_true rfl) (Nat.le_of_ble_eq_true rfl) (Nat.le_of_ble_eq_true rfl) dX0_init_31 (fun _ => rfl) ?_
  intro q_4
  refine v_putF C 0 (kf := 3) (nX0 g la (.ref (q_1)) (.ref (q_2)) (.ref (q_3)) (.ref (q_4)) .null .null .null .null .null (.int 0) ++ (rI100 g q_1 ((fun _ => 0)) ++ (rI100 g q_2 ((fun _ => 0)) ++ (rI100 g q_3 ((fun _ => 0)) ++ (rI100 g q_4 ((fun _ => 0)) ++ ([])))))) rfl rfl (by decide) inX0_init_0 lkX0_init_21 rfl tyX0_ok nmX0 rfl hin rfl rfl rfl (Nat.le_of_ble_eq_true rfl) dX0_init_33 rfl ?_
  refine v_aload_n C dX0_init_36 rfl 0 rfl ?_
  refine v_bipush C (z := 100) dX0_init_37 rfl ?_
  refine v_newaI C 100 (fun q_5 => nX0 g la (.ref (q_1)) (.ref (q_2)) (.ref (q_3)) (.ref (q_4)) .null .null .null .null .null (.int 0) ++ (rI100 g q_1 ((fun _ => 0)) ++ (rI100 g q_2 ((fun _ => 0)) ++ (rI100 g q_3 ((fun _ => 0)) ++ (rI100 g q_4 ((fun _ => 0)) ++ (rI100 g q_5 ((fun _ => 0)) ++ ([]))))))) arX0_init_I rfl (Nat.le_of_ble_eq_true rfl) (Nat.le_of_ble_eq_true rfl) (Nat.le_of_ble_eq_true rfl) dX0_init_39 (fun _ => rfl) ?_
  intro q_5
  refine v_putF C 0 (kf := 4) (nX0 g la (.ref (q_1)) (.ref (q_2)) (.ref (q_3)) (.ref (q_4)) (.ref (q_5)) .null .null .null .null (.int 0) ++ (rI100 g q_1 ((fun _ => 0)) ++ (rI100 g q_2 ((fun _ => 0)) ++ (rI100 g q_3 ((fun _ => 0)) ++ (rI100 g q_4 ((fun _ => 0)) ++ (rI100 g q_5 ((fun _ => 0)) ++ ([]))))))) rfl rfl (by decide) inX0_init_0 lkX0_init_24 rfl tyX0_ok nmX0 rfl hin rfl rfl rfl (Nat.le_of_ble_eq_true rfl) dX0_init_41 rfl ?_
  refine v_aload_n C dX0_init_44 rfl 0 rfl ?_
  refine v_bipush C (z := 100) dX0_init_45 rfl ?_
  refine v_newaI C 100 (fun q_6 => nX0 g la (.ref (q_1)) (.ref (q_2)) (.ref (q_3)) (.ref (q_4)) (.ref (q_5)) .null .null .null .null (.int 0) ++ (rI100 g q_1 ((fun _ => 0)) ++ (rI100 g q_2 ((fun _ => 0)) ++ (rI100 g q_3 ((fun _ => 0)) ++ (rI100 g q_4 ((fun _ => 0)) ++ (rI100 g q_5 ((fun _ => 0)) ++ (rI100 g q_6 ((fun _ => 0)) ++ ([])))))))) arX0_init_I rfl (Nat.le_of_ble_eq_true rfl) (Nat.le_of_ble_eq_true rfl) (Nat.le_of_ble_eq_true rfl) dX0_init_47 (fun _ => rfl) ?_
  intro q_6
  refine v_putF C 0 (kf := 5) (nX0 g la (.ref (q_1)) (.ref (q_2)) (.ref (q_3)) (.ref (q_4)) (.ref (q_5)) (.ref (q_6)) .null .null .null (.int 0) ++ (rI100 g q_1 ((fun _ => 0)) ++ (rI100 g q_2 ((fun _ => 0)) ++ (rI100 g q_3 ((fun _ => 0)) ++ (rI100 g q_4 ((fun _ => 0)) ++ (rI100 g q_5 ((fun _ => 0)) ++ (rI100 g q_6 ((fun _ => 0)) ++ ([])))))))) rfl rfl (by decide) inX0_init_0 lkX0_init_27 rfl tyX0_ok nmX0 rfl hin rfl rfl rfl (Nat.le_of_ble_eq_true rfl) dX0_init_49 rfl ?_
  refine v_aload_n C dX0_init_52 rfl 0 rfl ?_
  refine v_bipush C (z := 100) dX0_init_53 rfl ?_
  refine v_newaI C 100 (fun q_7 => nX0 g la (.ref (q_1)) (.ref (q_2)) (.ref (q_3)) (.ref (q_4)) (.ref (q_5)) (.ref (q_6)) .null .null .null (.int 0) ++ (rI100 g q_1 ((fun _ => 0)) ++ (rI100 g q_2 ((fun _ => 0)) ++ (rI100 g q_3 ((fun _ => 0)) ++ (rI100 g q_4 ((fun _ => 0)) ++ (rI100 g q_5 ((fun _ => 0)) ++ (rI100 g q_6 ((fun _ => 0)) ++ (rI100 g q_7 ((fun _ => 0)) ++ ([]))))))))) arX0_init_I rfl (Nat.le_of_ble_eq_true rfl) (Nat.le_of_ble_eq_true rfl) (Nat.le_of_ble_eq_true rfl) dX0_init_55 (fun _ => rfl) ?_
  intro q_7
  refine v_putF C 0 (kf := 6) (nX0 g la (.ref (q_1)) (.ref (q_2)) (.ref (q_3)) (.ref (q_4)) (.ref (q_5)) (.ref (q_6)) (.ref (q_7)) .null .null (.int 0) ++ (rI100 g q_1 ((fun _ => 0)) ++ (rI100 g q_2 ((fun _ => 0)) ++ (rI100 g q_3 ((fun _ => 0)) ++ (rI100 g q_4 ((fun _ => 0)) ++ (rI100 g q_5 ((fun _ => 0)) ++ (rI100 g q_6 ((fun _ => 0)) ++ (rI100 g q_7 ((fun _ => 0)) ++ ([]))))))))) rfl rfl (by decide) inX0_init_0 lkX0_init_30 rfl tyX0_ok nmX0 rfl hin rfl rfl rfl (Nat.le_of_ble_eq_true rfl) dX0_init_57 rfl ?_
  refine v_aload_n C dX0_init_60 rfl 0 rfl ?_
  refine v_bipush C (z := 100) dX0_init_61 rfl ?_
  refine v_newaL C 100 (fun q_8 => nX0 g la (.ref (q_1)) (.ref (q_2)) (.ref (q_3)) (.ref (q_4)) (.ref (q_5)) (.ref (q_6)) (.ref (q_7)) .null .null (.int 0) ++ (rI100 g q_1 ((fun _ => 0)) ++ (rI100 g q_2 ((fun _ => 0)) ++ (rI100 g q_3 ((fun _ => 0)) ++ (rI100 g q_4 ((fun _ => 0)) ++ (rI100 g q_5 ((fun _ => 0)) ++ (rI100 g q_6 ((fun _ => 0)) ++ (rI100 g q_7 ((fun _ => 0)) ++ (rL100 g q_8 ((fun _ => 0)) ++ ([])))))))))) arX0_init_L rfl (Nat.le_of_ble_eq_true rfl) (Nat.le_of_ble_eq_true rfl) (Nat.le_of_ble_eq_true rfl) dX0_init_63 (fun _ => rfl) ?_
  intro q_8
  refine v_putF C 0 (kf := 7) (nX0 g la (.ref (q_1)) (.ref (q_2)) (.ref (q_3)) (.ref (q_4)) (.ref (q_5)) (.ref (q_6)) (.ref (q_7)) (.ref (q_8)) .null (.int 0) ++ (rI100 g q_1 ((fun _ => 0)) ++ (rI100 g q_2 ((fun _ => 0)) ++ (rI100 g q_3 ((fun _ => 0)) ++ (rI100 g q_4 ((fun _ => 0)) ++ (rI100 g q_5 ((fun _ => 0)) ++ (rI100 g q_6 ((fun _ => 0)) ++ (rI100 g q_7 ((fun _ => 0)) ++ (rL100 g q_8 ((fun _ => 0)) ++ ([])))))))))) rfl rfl (by decide) inX0_init_0 lkX0_init_33 rfl tyX0_ok nmX0 rfl hin rfl rfl rfl (Nat.le_of_ble_eq_true rfl) dX0_init_65 rfl ?_
  refine v_aload_n C dX0_init_68 rfl 0 rfl ?_
  refine v_bipush C (z := 100) dX0_init_69 rfl ?_
  refine v_newaL C 100 (fun q_9 => nX0 g la (.ref (q_1)) (.ref (q_2)) (.ref (q_3)) (.ref (q_4)) (.ref (q_5)) (.ref (q_6)) (.ref (q_7)) (.ref (q_8)) .null (.int 0) ++ (rI100 g q_1 ((fun _ => 0)) ++ (rI100 g q_2 ((fun _ => 0)) ++ (rI100 g q_3 ((fun _ => 0)) ++ (rI100 g q_4 ((fun _ => 0)) ++ (rI100 g q_5 ((fun _ => 0)) ++ (rI100 g q_6 ((fun _ => 0)) ++ (rI100 g q_7 ((fun _ => 0)) ++ (rL100 g q_8 ((fun _ => 0)) ++ (rL100 g q_9 ((fun _ => 0)) ++ ([]))))))))))) arX0_init_L rfl (Nat.le_of_ble_eq_true rfl) (Nat.le_of_ble_eq_true rfl) (Nat.le_of_ble_eq_true rfl) dX0_init_71 (fun _ => rfl) ?_
  intro q_9
  refine v_putF C 0 (kf := 8) (nX0 g la (.ref (q_1)) (.ref (q_2)) (.ref (q_3)) (.ref (q_4)) (.ref (q_5)) (.ref (q_6)) (.ref (q_7)) (.ref (q_8)) (.ref (q_9)) (.int 0) ++ (rI100 g q_1 ((fun _ => 0)) ++ (rI100 g q_2 ((fun _ => 0)) ++ (rI100 g q_3 ((fun _ => 0)) ++ (rI100 g q_4 ((fun _ => 0)) ++ (rI100 g q_5 ((fun _ => 0)) ++ (rI100 g q_6 ((fun _ => 0)) ++ (rI100 g q_7 ((fun _ => 0)) ++ (rL100 g q_8 ((fun _ => 0)) ++ (rL100 g q_9 ((fun _ => 0)) ++ ([]))))))))))) rfl rfl (by decide) inX0_init_0 lkX0_init_37 rfl tyX0_ok nmX0 rfl hin rfl rfl rfl (Nat.le_of_ble_eq_true rfl) dX0_init_73 rfl ?_
  refine v_ws (ws' := wLog g la q_1 q_2 q_3 q_4 q_5 q_6 q_7 q_8 q_9 ((fun _ => 0)) ((fun _ => 0)) ((fun _ => 0)) ((fun _ => 0)) ((fun _ => 0)) ((fun _ => 0)) ((fun _ => 0)) ((fun _ => 0)) ((fun _ => 0)) 0 ++ ([])) (by unfold wLog; rw [xl_0, xh_0] <;> rfl) ?_
  refine v_aload_n C dX0_init_76 rfl 0 rfl ?_
  refine v_iconst C (z := 0) dX0_init_77 ?_
  refine v_iconst C (z := -1) dX0_init_78 ?_
  refine v_iconst C (z := -1) dX0_init_79 ?_
  refine v_invVI C (As := [.int (iI (0)), .int (iI (-1)), .int (iI (-1))]) (q0 := 0) (ci := 0) (kX0_addLine_b l g (la := la) (l1 := q_1) (l2 := q_2) (l3 := q_3) (l4 := q_4) (l5 := q_5) (l6 := q_6) (l7 := q_7) (l8 := q_8) (l9 := q_9) (deed := (fun _ => 0)) (item := (fun _ => 0)) (side := (fun _ => 0)) (picked := (fun _ => 0)) (qcnt := (fun _ => 0)) (An := (fun _ => 0)) (first := (fun _ => 0)) (second := (fun _ => 0)) (cm := 0) (d0 := 0) (by omega)) (cwV 3 C.2.2.2.2.1 gX0_init_X0_addLine rfl rfl rfl (by decide +kernel) ⟨Nat.le_of_ble_eq_true rfl, Nat.le_of_ble_eq_true rfl⟩) [wLog g la q_1 q_2 q_3 q_4 q_5 q_6 q_7 q_8 q_9 ((fun _ => 0)) ((fun _ => 0)) ((fun _ => 0)) ((fun _ => 0)) ((fun _ => 0)) ((fun _ => 0)) ((fun _ => 0)) ((fun _ => 0)) ((fun _ => 0)) 0] [0] [] [] (fun _ => [wLog g la q_1 q_2 q_3 q_4 q_5 q_6 q_7 q_8 q_9 (updN ((fun _ => 0)) (0) (0)) (updZ ((fun _ => 0)) (0) (-1)) (updZ ((fun _ => 0)) (0) (-1)) ((fun _ => 0)) ((fun _ => 0)) ((fun _ => 0)) ((fun _ => 0)) (updN ((fun _ => 0)) (0) (2 ^ 0)) (updN ((fun _ => 0)) (0) (2 ^ 0)) (0 + 1)]) (fun _ => wLog g la q_1 q_2 q_3 q_4 q_5 q_6 q_7 q_8 q_9 (updN ((fun _ => 0)) (0) (0)) (updZ ((fun _ => 0)) (0) (-1)) (updZ ((fun _ => 0)) (0) (-1)) ((fun _ => 0)) ((fun _ => 0)) ((fun _ => 0)) ((fun _ => 0)) (updN ((fun _ => 0)) (0) (2 ^ 0)) (updN ((fun _ => 0)) (0) (2 ^ 0)) (0 + 1) ++ ([])) rfl rfl rfl (fun _ => rfl) (fun _ => rfl) (fun _ => rfl) (fun _ => rfl) rfl rfl rfl rfl rfl (Nat.le_of_ble_eq_true rfl) dX0_init_80 ⟨by decide, by decide⟩ (fun r_11 _ h_10 => ?_)
  subst h_10
  refine v_pop C dX0_init_83 rfl ?_
  exact (v_vret C hr hl (uF [q_1, q_2, q_3, q_4, q_5, q_6, q_7, q_8, q_9]) (by decide) (by decide) rfl trivial dX0_init_84)
def tg0 (n : Nat) : Nat → Int := fun k => if k < n then -1 else 0
theorem tg0_0 : tg0 0 = fun _ => 0 := funext fun k => if_neg (Nat.not_lt_zero k)
theorem tg0_s (n : Nat) : updZ (tg0 n) n (-1) = tg0 (n + 1) := by
  funext k
  unfold updZ tg0
  by_cases h : k = n
  · rw [if_pos h, if_pos (by omega)]
  · rw [if_neg h]
    by_cases h2 : k < n
    · rw [if_pos h2, if_pos (by omega)]
    · rw [if_neg h2, if_neg (by omega)]
theorem lok_b {deed item side picked qcnt : Nat → Nat} {first second : Nat → Int} {j : Nat} : lok (updN deed j 0) item side picked qcnt first second j := by
  unfold lok
  rw [updN_s]
  exact ⟨by omega, fun h => absurd h (by omega), fun h => absurd h (by omega), fun h => absurd h (by omega)⟩
theorem T128_0 : T128 (fun _ => 0) := fun _ => Nat.two_pow_pos 128
theorem qb_0 : ∀ k, k < 10 → (fun _ : Nat => 0) k < 12 ∧ (fun _ : Nat => 0) k < 12 ∧ -99 ≤ (fun _ : Nat => (0 : Int)) k ∧ (fun _ : Nat => (0 : Int)) k ≤ 99 := fun k _ => by
  show 0 < 12 ∧ 0 < 12 ∧ (-99 : Int) ≤ 0 ∧ (0 : Int) ≤ 99
  omega
theorem v_0 : ∀ k, -1000 ≤ updZ (fun _ => 0) 0 (-1000) k ∧ updZ (fun _ => 0) 0 (-1000) k ≤ 999 := fun k => by
  unfold updZ
  by_cases h : k = 0
  · rw [if_pos h]; omega
  · rw [if_neg h]; show (-1000 : Int) ≤ 0 ∧ (0 : Int) ≤ 999; omega
