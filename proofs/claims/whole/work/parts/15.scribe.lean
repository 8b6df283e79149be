/-- what a merge tells for an item, out of what it holds in the first one, in the second one and in the base -/
def mg (a b d : Nat) : Nat := if a = b ∨ b = d then a else if a = d then b else a ||| b
theorem mg_a {a b d : Nat} (h : a = b ∨ b = d) : mg a b d = a := if_pos h
theorem mg_b {a b d : Nat} (h1 : ¬ a = b) (h2 : ¬ b = d) (h3 : a = d) : mg a b d = b := by
  unfold mg
  rw [if_neg (fun h => h.elim h1 h2), if_pos h3]
theorem mg_c {a b d : Nat} (h1 : ¬ a = b) (h2 : ¬ b = d) (h3 : ¬ a = d) : mg a b d = a ||| b := by
  unfold mg
  rw [if_neg (fun h => h.elim h1 h2), if_neg h3]
theorem mg128 {a b d : Nat} (ha : a < 2 ^ 128) (hb : b < 2 ^ 128) : mg a b d < 2 ^ 128 := by
  unfold mg
  by_cases h : a = b ∨ b = d
  · rw [if_pos h]; exact ha
  · rw [if_neg h]
    by_cases h2 : a = d
    · rw [if_pos h2]; exact hb
    · rw [if_neg h2]; exact or128 ha hb
def mgF (T : Nat → Nat) (f s b : Nat) : Nat → Nat := fun i => mg (T (12 * f + i)) (T (12 * s + i)) (T (12 * b + i))
theorem mgF128 {T : Nat → Nat} (h : T128 T) (f s b i : Nat) : mgF T f s b i < 2 ^ 128 := mg128 (h _) (h _)
theorem mg_step {T : Nat → Nat} {r f s b i : Nat} (hi : i < 12) (hf : f < r) (hs : s < r) (hb : b < r) : updN (rowP T r i (mgF T f s b)) (12 * r + i) (mg (rowP T r i (mgF T f s b) (12 * f + i)) (rowP T r i (mgF T f s b) (12 * s + i)) (rowP T r i (mgF T f s b) (12 * b + i))) = rowP T r (i + 1) (mgF T f s b) := by
  rw [rowP_else (by omega) hi (by omega), rowP_else (by omega) hi (by omega), rowP_else (by omega) hi (by omega)]
  exact rowP_s T r i (mgF T f s b)
/-- what a pick tells for an item: in the picked commit, in its parent, in the head -/
def pkc (q b h : Nat) : Nat := if q = b then h else if h = b then q else h ||| q
theorem pkc_a {q b h : Nat} (e : q = b) : pkc q b h = h := if_pos e
theorem pkc_b {q b h : Nat} (e : ¬ q = b) (e2 : h = b) : pkc q b h = q := by
  unfold pkc
  rw [if_neg e, if_pos e2]
theorem pkc_c {q b h : Nat} (e : ¬ q = b) (e2 : ¬ h = b) : pkc q b h = h ||| q := by
  unfold pkc
  rw [if_neg e, if_neg e2]
theorem pkc128 {q b h : Nat} (hq : q < 2 ^ 128) (hh : h < 2 ^ 128) : pkc q b h < 2 ^ 128 := by
  unfold pkc
  by_cases e : q = b
  · rw [if_pos e]; exact hh
  · rw [if_neg e]
    by_cases e2 : h = b
    · rw [if_pos e2]; exact hq
    · rw [if_neg e2]; exact or128 hh hq
def pickF (T : Nat → Nat) (h q b : Nat) : Nat → Nat := fun i => pkc (T (12 * q + i)) (T (12 * b + i)) (T (12 * h + i))
theorem pickF128 {T : Nat → Nat} (hT : T128 T) (h q b i : Nat) : pickF T h q b i < 2 ^ 128 := pkc128 (hT _) (hT _)
theorem pk_step {T : Nat → Nat} {r h q b i v : Nat} (hi : i < 12) (hv : v = pkc (T (12 * q + i)) (T (12 * b + i)) (T (12 * h + i))) : updN (rowP T r i (pickF T h q b)) (12 * r + i) v = rowP T r (i + 1) (pickF T h q b) := by
  rw [hv]
  exact rowP_s T r i (pickF T h q b)
/-- the quotes that are looked at in a merge of f and s into the row r -/
def qstep (vals : Nat → Int) (cn : Nat) (qi qo : Nat → Nat) (qs : Nat → Int) (f s r : Nat) (U : Nat → Nat) (q : Nat) : Nat → Nat :=
  if ((qst vals cn (qs q) (U (12 * f + qi q)) (U (12 * f + qo q)) : Nat) : Int) = 0 ∧ ((qst vals cn (qs q) (U (12 * s + qi q)) (U (12 * s + qo q)) : Nat) : Int) = 0 ∧ ((qst vals cn (qs q) (U (12 * r + qi q)) (U (12 * r + qo q)) : Nat) : Int) = 1 then
    updN (updN U (12 * r + qi q) (U (12 * f + qi q) ||| U (12 * s + qi q))) (12 * r + qo q) (updN U (12 * r + qi q) (U (12 * f + qi q) ||| U (12 * s + qi q)) (12 * f + qo q) ||| updN U (12 * r + qi q) (U (12 * f + qi q) ||| U (12 * s + qi q)) (12 * s + qo q))
  else U
def qp (vals : Nat → Int) (cn : Nat) (qi qo : Nat → Nat) (qs : Nat → Int) (f s r : Nat) (U : Nat → Nat) : Nat → Nat → Nat
  | 0 => U
  | q + 1 => qstep vals cn qi qo qs f s r (qp vals cn qi qo qs f s r U q) q
theorem qstep128 {vals : Nat → Int} {cn : Nat} {qi qo : Nat → Nat} {qs : Nat → Int} {f s r : Nat} {U : Nat → Nat} (h : T128 U) (q : Nat) : T128 (qstep vals cn qi qo qs f s r U q) := by
  unfold qstep
  have h1 : T128 (updN U (12 * r + qi q) (U (12 * f + qi q) ||| U (12 * s + qi q))) := T128_upd h _ (or128 (h _) (h _))
  split
  · exact T128_upd h1 _ (or128 (h1 _) (h1 _))
  · exact h
theorem qp128 {vals : Nat → Int} {cn : Nat} {qi qo : Nat → Nat} {qs : Nat → Int} {f s r : Nat} {U : Nat → Nat} (h : T128 U) : ∀ q, T128 (qp vals cn qi qo qs f s r U q)
  | 0 => h
  | q + 1 => qstep128 (qp128 h q) q
/-- the row r of a merge of f and s -/
def mgT (vals : Nat → Int) (cn : Nat) (qi qo : Nat → Nat) (qs : Nat → Int) (An T : Nat → Nat) (f s r n : Nat) : Nat → Nat := qp vals cn qi qo qs f s r (rowP T r 12 (mgF T f s (gsh (An f &&& An s) (min f s)))) n
theorem mgT128 {vals : Nat → Int} {cn : Nat} {qi qo : Nat → Nat} {qs : Nat → Int} {An T : Nat → Nat} (h : T128 T) (f s r n : Nat) : T128 (mgT vals cn qi qo qs An T f s r n) := qp128 (T128_row h _ _ (mgF128 h _ _ _)) n
theorem base_lt {An : Nat → Nat} {f s r : Nat} (hf : f < r) : gsh (An f &&& An s) (min f s) < r := Nat.lt_of_le_of_lt (Nat.le_trans (gsh_le _ _) (Nat.min_le_left _ _)) hf
/-- the row of a commit by its line of the log -/
def wrT (vals : Nat → Int) (cn : Nat) (qi qo : Nat → Nat) (qs : Nat → Int) (deed item side picked qcnt An : Nat → Nat) (first second : Nat → Int) (T : Nat → Nat) (j : Nat) : Nat → Nat :=
  if deed j = 1 then updN (rowP T j 12 (fun i => T (12 * (first j).toNat + i))) (12 * j + item j) (2 ^ side j)
  else if deed j = 2 then mgT vals cn qi qo qs An T (first j).toNat (second j).toNat j (qcnt j)
  else if deed j = 3 then rowP T j 12 (pickF T (first j).toNat (picked j) (first (picked j)).toNat)
  else rowP T j 12 (fun _ => 1)
/-- a line of the log that can be written -/
def lok (deed item side picked qcnt : Nat → Nat) (first second : Nat → Int) (j : Nat) : Prop :=
  deed j ≤ 3 ∧ (deed j = 1 → ∃ f : Nat, first j = (f : Int) ∧ f < j ∧ item j < 12 ∧ side j < 128) ∧ (deed j = 2 → ∃ f s : Nat, first j = (f : Int) ∧ second j = (s : Int) ∧ f < j ∧ s < j ∧ qcnt j ≤ 10) ∧ (deed j = 3 → ∃ f b : Nat, first j = (f : Int) ∧ f < j ∧ picked j < j ∧ first (picked j) = (b : Int) ∧ b < j)
theorem pow128 {n : Nat} (h : n < 128) : 2 ^ n < 2 ^ 128 := Nat.pow_lt_pow_right (by decide) h
theorem wrT128 {vals : Nat → Int} {cn : Nat} {qi qo : Nat → Nat} {qs : Nat → Int} {deed item side picked qcnt An : Nat → Nat} {first second : Nat → Int} {T : Nat → Nat} (h : T128 T) {j : Nat} (hl : lok deed item side picked qcnt first second j) : T128 (wrT vals cn qi qo qs deed item side picked qcnt An first second T j) := by
  unfold wrT
  by_cases h1 : deed j = 1
  · rw [if_pos h1]
    obtain ⟨f, e1, e2, e3, e4⟩ := hl.2.1 h1
    exact T128_upd (T128_row h _ _ (fun i => h _)) _ (pow128 e4)
  · rw [if_neg h1]
    by_cases h2 : deed j = 2
    · rw [if_pos h2]
      exact mgT128 h _ _ _ _
    · rw [if_neg h2]
      by_cases h3 : deed j = 3
      · rw [if_pos h3]
        exact T128_row h _ _ (pickF128 h _ _ _)
      · rw [if_neg h3]
        exact T128_row h _ _ (fun _ => by decide)
set_option maxHeartbeats 4000000 in
set_option maxRecDepth 100000 in
theorem kX3_mergeItem (l : Launch) (g : vG) {sa la qa : Nat} {ta tp tlo thi : Nat} {T : Nat → Nat} {r0 i0 f0 f1 b0 : Nat} (hr0 : r0 < 102) (hi0 : i0 < 12) (hf0 : f0 < 102) (hf1 : f1 < 102) (hb0 : b0 < 102) (hT : T128 T) : mV l g yX3_mergeItem wsX3_mergeItem ({ frames := 2, cells := 0, slots := 0, locals := 48 }) [.ref (sa), .ref (ta), .int (iI ((r0 : Nat) : Int)), .int (iI ((i0 : Nat) : Int)), .int (iI ((f0 : Nat) : Int)), .int (iI ((f1 : Nat) : Int)), .int (iI ((b0 : Nat) : Int))] (wScr g sa la qa ++ (wTab g ta tp tlo thi T T ++ ([]))) (fun _ : Unit => wScr g sa la qa ++ (wTab g ta tp tlo thi (updN T (12 * r0 + i0) (mg (T (12 * f0 + i0)) (T (12 * f1 + i0)) (T (12 * b0 + i0)))) (updN T (12 * r0 + i0) (mg (T (12 * f0 + i0)) (T (12 * f1 + i0)) (T (12 * b0 + i0)))) ++ ([]))) (fun _ => True) 0 0 := by
  refine mV_of (cc := cX3_mergeItem) (maxL := 7) (ret := none) (own := RX3) (by decide) rfl rfl (Nat.le_of_ble_eq_true rfl) ?_
  intro p e s m args below meth c A C hr hl hin
  refine v_aload_n C dX3_mergeItem_0 rfl 1 rfl ?_
  refine v_iload_n C dX3_mergeItem_1 rfl 3 rfl ?_
  refine v_iload C dX3_mergeItem_2 4 rfl ?_
  refine v_iload C dX3_mergeItem_4 5 rfl ?_
  refine v_invVI C (As := [.int (iI ((i0 : Nat) : Int)), .int (iI ((f0 : Nat) : Int)), .int (iI ((f1 : Nat) : Int))]) (q0 := 0) (ci := 4) (kX4_holdsSame l g (ta := ta) (tp := tp) (tlo := tlo) (thi := thi) (T := T) (i0 := i0) (r0 := f0) (f0 := f1) (by omega) (by omega) (by omega) hT) (cwV 3 C.2.2.2.2.1 gX3_mergeItem_X4_holdsSame rfl rfl rfl (by decide +kernel) ⟨Nat.le_of_ble_eq_true rfl, Nat.le_of_ble_eq_true rfl⟩) [wScr g sa la qa, wTab g ta tp tlo thi T T] [1] [0] [] (fun _ => [wScr g sa la qa, wTab g ta tp tlo thi T T]) (fun _ => wScr g sa la qa ++ (wTab g ta tp tlo thi T T ++ ([]))) rfl rfl rfl (fun _ => rfl) (fun _ => rfl) (fun _ => rfl) (fun _ => rfl) rfl rfl rfl rfl rfl (Nat.le_of_ble_eq_true rfl) dX3_mergeItem_6 ⟨by decide, by decide⟩ (fun r_2 _ h_1 => ?_)
  subst h_1
  refine v_ifz_ne C 24 dX3_mergeItem_9 (by decide) (fun c_3 => ?_) (fun c_3 => ?_)
  ·
    refine v_aload_n C dX3_mergeItem_24 rfl 1 rfl ?_
    refine v_iload_n C dX3_mergeItem_25 rfl 2 rfl ?_
    refine v_iload_n C dX3_mergeItem_26 rfl 3 rfl ?_
    refine v_iload C dX3_mergeItem_27 4 rfl ?_
    refine v_invVV C (As := [.int (iI ((r0 : Nat) : Int)), .int (iI ((i0 : Nat) : Int)), .int (iI ((f0 : Nat) : Int))]) (q0 := 0) (ci := 4) (kX4_holdWhat l g (ta := ta) (tp := tp) (tlo := tlo) (thi := thi) (T := T) (r0 := r0) (i0 := i0) (f0 := f0) (by omega) (by omega) (by omega)) (cwV 3 C.2.2.2.2.1 gX3_mergeItem_X4_holdWhat rfl rfl rfl (by decide +kernel) ⟨Nat.le_of_ble_eq_true rfl, Nat.le_of_ble_eq_true rfl⟩) [wScr g sa la qa, wTab g ta tp tlo thi T T] [1] [0] [] (fun _ => [wScr g sa la qa, wTab g ta tp tlo thi (updN T (12 * r0 + i0) (T (12 * f0 + i0))) (updN T (12 * r0 + i0) (T (12 * f0 + i0)))]) (fun _ => wScr g sa la qa ++ (wTab g ta tp tlo thi (updN T (12 * r0 + i0) (T (12 * f0 + i0))) (updN T (12 * r0 + i0) (T (12 * f0 + i0))) ++ ([]))) rfl rfl rfl (fun _ => rfl) (fun _ => rfl) (fun _ => rfl) (fun _ => rfl) rfl rfl rfl rfl rfl (Nat.le_of_ble_eq_true rfl) dX3_mergeItem_29 ⟨by decide, by decide⟩ (fun _ h_4 => ?_)
    refine v_goto C 68 dX3_mergeItem_32 (by decide) ?_
    exact (v_vret C hr hl () (by decide) (by decide) (by rw [mg_a (Or.inl (of_decide_eq_true c_3))]) trivial dX3_mergeItem_68)
  ·
    refine v_aload_n C dX3_mergeItem_12 rfl 1 rfl ?_
    refine v_iload_n C dX3_mergeItem_13 rfl 3 rfl ?_
    refine v_iload C dX3_mergeItem_14 5 rfl ?_
    refine v_iload C dX3_mergeItem_16 6 rfl ?_
    refine v_invVI C (As := [.int (iI ((i0 : Nat) : Int)), .int (iI ((f1 : Nat) : Int)), .int (iI ((b0 : Nat) : Int))]) (q0 := 0) (ci := 4) (kX4_holdsSame l g (ta := ta) (tp := tp) (tlo := tlo) (thi := thi) (T := T) (i0 := i0) (r0 := f1) (f0 := b0) (by omega) (by omega) (by omega) hT) (cwV 3 C.2.2.2.2.1 gX3_mergeItem_X4_holdsSame rfl rfl rfl (by decide +kernel) ⟨Nat.le_of_ble_eq_true rfl, Nat.le_of_ble_eq_true rfl⟩) [wScr g sa la qa, wTab g ta tp tlo thi T T] [1] [0] [] (fun _ => [wScr g sa la qa, wTab g ta tp tlo thi T T]) (fun _ => wScr g sa la qa ++ (wTab g ta tp tlo thi T T ++ ([]))) rfl rfl rfl (fun _ => rfl) (fun _ => rfl) (fun _ => rfl) (fun _ => rfl) rfl rfl rfl rfl rfl (Nat.le_of_ble_eq_true rfl) dX3_mergeItem_18 ⟨by decide, by decide⟩ (fun r_7 _ h_6 => ?_)
    subst h_6
    refine v_ifz_eq C 35 dX3_mergeItem_21 (by decide) (fun c_8 => ?_) (fun c_8 => ?_)
    ·
      refine v_aload_n C dX3_mergeItem_35 rfl 1 rfl ?_
      refine v_iload_n C dX3_mergeItem_36 rfl 3 rfl ?_
      refine v_iload C dX3_mergeItem_37 4 rfl ?_
      refine v_iload C dX3_mergeItem_39 6 rfl ?_
      refine v_invVI C (As := [.int (iI ((i0 : Nat) : Int)), .int (iI ((f0 : Nat) : Int)), .int (iI ((b0 : Nat) : Int))]) (q0 := 0) (ci := 4) (kX4_holdsSame l g (ta := ta) (tp := tp) (tlo := tlo) (thi := thi) (T := T) (i0 := i0) (r0 := f0) (f0 := b0) (by omega) (by omega) (by omega) hT) (cwV 3 C.2.2.2.2.1 gX3_mergeItem_X4_holdsSame rfl rfl rfl (by decide +kernel) ⟨Nat.le_of_ble_eq_true rfl, Nat.le_of_ble_eq_true rfl⟩) [wScr g sa la qa, wTab g ta tp tlo thi T T] [1] [0] [] (fun _ => [wScr g sa la qa, wTab g ta tp tlo thi T T]) (fun _ => wScr g sa la qa ++ (wTab g ta tp tlo thi T T ++ ([]))) rfl rfl rfl (fun _ => rfl) (fun _ => rfl) (fun _ => rfl) (fun _ => rfl) rfl rfl rfl rfl rfl (Nat.le_of_ble_eq_true rfl) dX3_mergeItem_41 ⟨by decide, by decide⟩ (fun r_10 _ h_9 => ?_)
      subst h_9
      refine v_ifz_eq C 58 dX3_mergeItem_44 (by decide) (fun c_11 => ?_) (fun c_11 => ?_)
      ·
        refine v_aload_n C dX3_mergeItem_58 rfl 1 rfl ?_
        refine v_iload_n C dX3_mergeItem_59 rfl 2 rfl ?_
        refine v_iload_n C dX3_mergeItem_60 rfl 3 rfl ?_
        refine v_iload C dX3_mergeItem_61 4 rfl ?_
        refine v_iload C dX3_mergeItem_63 5 rfl ?_
        refine v_invVV C (As := [.int (iI ((r0 : Nat) : Int)), .int (iI ((i0 : Nat) : Int)), .int (iI ((f0 : Nat) : Int)), .int (iI ((f1 : Nat) : Int))]) (q0 := 0) (ci := 4) (kX4_holdAll l g (ta := ta) (tp := tp) (tlo := tlo) (thi := thi) (T := T) (r0 := r0) (i0 := i0) (f0 := f0) (f1 := f1) (by omega) (by omega) (by omega) (by omega)) (cwV 4 C.2.2.2.2.1 gX3_mergeItem_X4_holdAll rfl rfl rfl (by decide +kernel) ⟨Nat.le_of_ble_eq_true rfl, Nat.le_of_ble_eq_true rfl⟩) [wScr g sa la qa, wTab g ta tp tlo thi T T] [1] [0] [] (fun _ => [wScr g sa la qa, wTab g ta tp tlo thi (updN T (12 * r0 + i0) (T (12 * f0 + i0) ||| T (12 * f1 + i0))) (updN T (12 * r0 + i0) (T (12 * f0 + i0) ||| T (12 * f1 + i0)))]) (fun _ => wScr g sa la qa ++ (wTab g ta tp tlo thi (updN T (12 * r0 + i0) (T (12 * f0 + i0) ||| T (12 * f1 + i0))) (updN T (12 * r0 + i0) (T (12 * f0 + i0) ||| T (12 * f1 + i0))) ++ ([]))) rfl rfl rfl (fun _ => rfl) (fun _ => rfl) (fun _ => rfl) (fun _ => rfl) rfl rfl rfl rfl rfl (Nat.le_of_ble_eq_true rfl) dX3_mergeItem_65 ⟨by decide, by decide⟩ (fun _ h_12 => ?_)
        exact (v_vret C hr hl () (by decide) (by decide) (by rw [mg_c (of_decide_eq_false c_3) (of_decide_eq_false c_8) (of_decide_eq_false c_11)]) trivial dX3_mergeItem_68)
      ·
        refine v_aload_n C dX3_mergeItem_47 rfl 1 rfl ?_
        refine v_iload_n C dX3_mergeItem_48 rfl 2 rfl ?_
        refine v_iload_n C dX3_mergeItem_49 rfl 3 rfl ?_
        refine v_iload C dX3_mergeItem_50 5 rfl ?_
        refine v_invVV C (As := [.int (iI ((r0 : Nat) : Int)), .int (iI ((i0 : Nat) : Int)), .int (iI ((f1 : Nat) : Int))]) (q0 := 0) (ci := 4) (kX4_holdWhat l g (ta := ta) (tp := tp) (tlo := tlo) (thi := thi) (T := T) (r0 := r0) (i0 := i0) (f0 := f1) (by omega) (by omega) (by omega)) (cwV 3 C.2.2.2.2.1 gX3_mergeItem_X4_holdWhat rfl rfl rfl (by decide +kernel) ⟨Nat.le_of_ble_eq_true rfl, Nat.le_of_ble_eq_true rfl⟩) [wScr g sa la qa, wTab g ta tp tlo thi T T] [1] [0] [] (fun _ => [wScr g sa la qa, wTab g ta tp tlo thi (updN T (12 * r0 + i0) (T (12 * f1 + i0))) (updN T (12 * r0 + i0) (T (12 * f1 + i0)))]) (fun _ => wScr g sa la qa ++ (wTab g ta tp tlo thi (updN T (12 * r0 + i0) (T (12 * f1 + i0))) (updN T (12 * r0 + i0) (T (12 * f1 + i0))) ++ ([]))) rfl rfl rfl (fun _ => rfl) (fun _ => rfl) (fun _ => rfl) (fun _ => rfl) rfl rfl rfl rfl rfl (Nat.le_of_ble_eq_true rfl) dX3_mergeItem_52 ⟨by decide, by decide⟩ (fun _ h_14 => ?_)
        refine v_goto C 68 dX3_mergeItem_55 (by decide) ?_
        exact (v_vret C hr hl () (by decide) (by decide) (by rw [mg_b (of_decide_eq_false c_3) (of_decide_eq_false c_8) (of_decide_eq_true c_11)]) trivial dX3_mergeItem_68)
    ·
      refine v_aload_n C dX3_mergeItem_24 rfl 1 rfl ?_
      refine v_iload_n C dX3_mergeItem_25 rfl 2 rfl ?_
      refine v_iload_n C dX3_mergeItem_26 rfl 3 rfl ?_
      refine v_iload C dX3_mergeItem_27 4 rfl ?_
      refine v_invVV C (As := [.int (iI ((r0 : Nat) : Int)), .int (iI ((i0 : Nat) : Int)), .int (iI ((f0 : Nat) : Int))]) (q0 := 0) (ci := 4) (kX4_holdWhat l g (ta := ta) (tp := tp) (tlo := tlo) (thi := thi) (T := T) (r0 := r0) (i0 := i0) (f0 := f0) (by omega) (by omega) (by omega)) (cwV 3 C.2.2.2.2.1 gX3_mergeItem_X4_holdWhat rfl rfl rfl (by decide +kernel) ⟨Nat.le_of_ble_eq_true rfl, Nat.le_of_ble_eq_true rfl⟩) [wScr g sa la qa, wTab g ta tp tlo thi T T] [1] [0] [] (fun _ => [wScr g sa la qa, wTab g ta tp tlo thi (updN T (12 * r0 + i0) (T (12 * f0 + i0))) (updN T (12 * r0 + i0) (T (12 * f0 + i0)))]) (fun _ => wScr g sa la qa ++ (wTab g ta tp tlo thi (updN T (12 * r0 + i0) (T (12 * f0 + i0))) (updN T (12 * r0 + i0) (T (12 * f0 + i0))) ++ ([]))) rfl rfl rfl (fun _ => rfl) (fun _ => rfl) (fun _ => rfl) (fun _ => rfl) rfl rfl rfl rfl rfl (Nat.le_of_ble_eq_true rfl) dX3_mergeItem_29 ⟨by decide, by decide⟩ (fun _ h_16 => ?_)
      refine v_goto C 68 dX3_mergeItem_32 (by decide) ?_
      exact (v_vret C hr hl () (by decide) (by decide) (by rw [mg_a (Or.inr (of_decide_eq_true c_8))]) trivial dX3_mergeItem_68)
theorem inX3_writeMerge_3 : ∀ w ∈ u_ws RX3 TX3 2, w ∈ wsX3_writeMerge := by decide +kernel
theorem lkX3_writeMerge_9 : Cond.fieldLink RX3 9 "MergeAtelier$Scribe" "log" "LMergeAtelier$Log;" ∈ wsX3_writeMerge := by decide +kernel
theorem lkX3_writeMerge_15 : Cond.fieldLink RX3 15 "MergeAtelier$Scribe" "quotes" "LMergeAtelier$Quotes;" ∈ wsX3_writeMerge := by decide +kernel
theorem inX3_writeMerge_2 : ∀ w ∈ u_ws RX2 TX2 4, w ∈ wsX3_writeMerge := by decide +kernel
theorem lkX3_writeMerge_79 : Cond.fieldLink RX3 79 "MergeAtelier$Quotes" "items" "[I" ∈ wsX3_writeMerge := by decide +kernel
theorem lkX3_writeMerge_86 : Cond.fieldLink RX3 86 "MergeAtelier$Quotes" "others" "[I" ∈ wsX3_writeMerge := by decide +kernel
set_option maxHeartbeats 4000000 in
set_option maxRecDepth 100000 in
theorem kX3_writeMerge (l : Launch) (g : vG) {sa : Nat} {la : Nat} {l1 l2 l3 l4 l5 l6 l7 l8 l9 : Nat} {deed item side picked qcnt An : Nat → Nat} {first second : Nat → Int} {cm : Nat} {qa : Nat} {q1 q2 q3 : Nat} {qi qo : Nat → Nat} {qs : Nat → Int} {qc : Nat} {ta tp tlo thi : Nat} {T : Nat → Nat} {tv tr : Nat} {vals : Nat → Int} {ris : Nat → Nat} {cn : Nat} {r0 f0 f1 qn : Nat} (hr0 : r0 < 102) (hf0 : f0 < r0) (hf1 : f1 < r0) (hf2 : f0 < 100) (hf3 : f1 < 100) (hqn : qn ≤ 10) (hcn : cn ≤ 100) (hT : T128 T) (hqb : ∀ k, k < 10 → qi k < 12 ∧ qo k < 12 ∧ -99 ≤ qs k ∧ qs k ≤ 99) (hv : ∀ k, -1000 ≤ vals k ∧ vals k ≤ 999) : mV l g yX3_writeMerge wsX3_writeMerge ({ frames := 3, cells := 0, slots := 0, locals := 75 }) [.ref (sa), .ref (ta), .int (iI ((r0 : Nat) : Int)), .int (iI ((f0 : Nat) : Int)), .int (iI ((f1 : Nat) : Int)), .int (iI ((qn : Nat) : Int))] (wScr g sa la qa ++ (wLog g la l1 l2 l3 l4 l5 l6 l7 l8 l9 deed first second item side picked qcnt An An cm ++ (wQuo g qa q1 q2 q3 qi qo qs qc ++ (wTab g ta tp tlo thi T T ++ (wPal g tp tv tr vals ris cn ++ ([])))))) (fun _ : Unit => wScr g sa la qa ++ (wLog g la l1 l2 l3 l4 l5 l6 l7 l8 l9 deed first second item side picked qcnt An An cm ++ (wQuo g qa q1 q2 q3 qi qo qs qc ++ (wTab g ta tp tlo thi (mgT vals cn qi qo qs An T f0 f1 r0 qn) (mgT vals cn qi qo qs An T f0 f1 r0 qn) ++ (wPal g tp tv tr vals ris cn ++ ([])))))) (fun _ => True) 0 0 := by
  refine mV_of (cc := cX3_writeMerge) (maxL := 8) (ret := none) (own := RX3) (by decide) rfl rfl (Nat.le_of_ble_eq_true rfl) ?_
  intro p e s m args below meth c A C hr hl hin
  have hbb : (gsh (An f0 &&& An f1) (min f0 f1)) < r0 := base_lt hf0
  refine v_aload_n C dX3_writeMerge_0 rfl 0 rfl ?_
  refine v_get C 0 (kf := 0) rfl rfl (by decide) inX3_writeMerge_3 lkX3_writeMerge_9 rfl rfl dX3_writeMerge_1 ?_
  refine v_iload_n C dX3_writeMerge_4 rfl 3 rfl ?_
  refine v_iload C dX3_writeMerge_5 4 rfl ?_
  refine v_invVI C (As := [.int (iI ((f0 : Nat) : Int)), .int (iI ((f1 : Nat) : Int))]) (q0 := 0) (ci := 0) (kX0_greatestShared l g (la := la) (l1 := l1) (l2 := l2) (l3 := l3) (l4 := l4) (l5 := l5) (l6 := l6) (l7 := l7) (l8 := l8) (l9 := l9) (deed := deed) (item := item) (side := side) (picked := picked) (qcnt := qcnt) (An := An) (first := first) (second := second) (cm := cm) (c0 := f0) (c1 := f1) (by omega) (by omega)) (cwV 2 C.2.2.2.2.1 gX3_writeMerge_X0_greatestShared rfl rfl rfl (by decide +kernel) ⟨Nat.le_of_ble_eq_true rfl, Nat.le_of_ble_eq_true rfl⟩) [wScr g sa la qa, wLog g la l1 l2 l3 l4 l5 l6 l7 l8 l9 deed first second item side picked qcnt An An cm, wQuo g qa q1 q2 q3 qi qo qs qc, wTab g ta tp tlo thi T T, wPal g tp tv tr vals ris cn] [1] [0, 2, 3, 4] [] (fun _ => [wScr g sa la qa, wLog g la l1 l2 l3 l4 l5 l6 l7 l8 l9 deed first second item side picked qcnt An An cm, wQuo g qa q1 q2 q3 qi qo qs qc, wTab g ta tp tlo thi T T, wPal g tp tv tr vals ris cn]) (fun _ => wScr g sa la qa ++ (wLog g la l1 l2 l3 l4 l5 l6 l7 l8 l9 deed first second item side picked qcnt An An cm ++ (wQuo g qa q1 q2 q3 qi qo qs qc ++ (wTab g ta tp tlo thi T T ++ (wPal g tp tv tr vals ris cn ++ ([])))))) rfl rfl rfl (fun _ => rfl) (fun _ => rfl) (fun _ => rfl) (fun _ => rfl) rfl rfl rfl rfl rfl (Nat.le_of_ble_eq_true rfl) dX3_writeMerge_7 ⟨by decide, by decide⟩ (fun r_2 _ h_1 => ?_)
  subst h_1
  refine v_istore C [(6, .int (iI ((gsh (An f0 &&& An f1) (min f0 f1) : Nat) : Int))), (0, .ref (sa)), (1, .ref (ta)), (2, .int (iI ((r0 : Nat) : Int))), (3, .int (iI ((f0 : Nat) : Int))), (4, .int (iI ((f1 : Nat) : Int))), (5, .int (iI ((qn : Nat) : Int)))] dX3_writeMerge_10 (by decide) rfl ?_
  refine v_iconst C (z := 0) dX3_writeMerge_12 ?_
  refine v_istore C [(7, .int (iI (0))), (6, .int (iI ((gsh (An f0 &&& An f1) (min f0 f1) : Nat) : Int))), (0, .ref (sa)), (1, .ref (ta)), (2, .int (iI ((r0 : Nat) : Int))), (3, .int (iI ((f0 : Nat) : Int))), (4, .int (iI ((f1 : Nat) : Int))), (5, .int (iI ((qn : Nat) : Int)))] dX3_writeMerge_13 (by decide) rfl ?_
  refine v_lv (lv' := [(0, .ref (sa)), (1, .ref (ta)), (2, .int (iI ((r0 : Nat) : Int))), (3, .int (iI ((f0 : Nat) : Int))), (4, .int (iI ((f1 : Nat) : Int))), (5, .int (iI ((qn : Nat) : Int))), (6, .int (iI ((gsh (An f0 &&& An f1) (min f0 f1) : Nat) : Int))), (7, .int (iI ((0 : Nat) : Int)))]) [2, 3, 4, 5, 6, 7, 1, 0] rfl ?_
  refine v_ws (ws' := wScr g sa la qa ++ (wLog g la l1 l2 l3 l4 l5 l6 l7 l8 l9 deed first second item side picked qcnt An An cm ++ (wQuo g qa q1 q2 q3 qi qo qs qc ++ (wTab g ta tp tlo thi (rowP T r0 0 (mgF T f0 f1 (gsh (An f0 &&& An f1) (min f0 f1)))) (rowP T r0 0 (mgF T f0 f1 (gsh (An f0 &&& An f1) (min f0 f1)))) ++ (wPal g tp tv tr vals ris cn ++ ([])))))) (by rw [rowP_0]) ?_
  refine v_lp1 (X := Nat) (fun i => wScr g sa la qa ++ (wLog g la l1 l2 l3 l4 l5 l6 l7 l8 l9 deed first second item side picked qcnt An An cm ++ (wQuo g qa q1 q2 q3 qi qo qs qc ++ (wTab g ta tp tlo thi (rowP T r0 i (mgF T f0 f1 (gsh (An f0 &&& An f1) (min f0 f1)))) (rowP T r0 i (mgF T f0 f1 (gsh (An f0 &&& An f1) (min f0 f1)))) ++ (wPal g tp tv tr vals ris cn ++ ([])))))) (fun i => [(0, .ref (sa)), (1, .ref (ta)), (2, .int (iI ((r0 : Nat) : Int))), (3, .int (iI ((f0 : Nat) : Int))), (4, .int (iI ((f1 : Nat) : Int))), (5, .int (iI ((qn : Nat) : Int))), (6, .int (iI ((gsh (An f0 &&& An f1) (min f0 f1) : Nat) : Int))), (7, .int (iI ((i : Nat) : Int)))]) (fun i => 12 - i) (fun i => i ≤ 12) ?_ (0) (Nat.zero_le _)
  intro i hJ15 ih15
  try dsimp only at hJ15 ⊢
  refine v_iload C dX3_writeMerge_15 7 rfl ?_
  refine v_bipush C (z := 12) dX3_writeMerge_17 rfl ?_
  refine v_icmp_ge C 41 dX3_writeMerge_19 (by decide) ⟨by omega, by omega⟩ (b31_lit _ rfl) (fun c_3 => ?_) (fun c_3 => ?_)
  ·
    obtain rfl : i = 12 := by omega
    refine v_iconst C (z := 0) dX3_writeMerge_41 ?_
    refine v_istore C [(7, .int (iI (0))), (0, .ref (sa)), (1, .ref (ta)), (2, .int (iI ((r0 : Nat) : Int))), (3, .int (iI ((f0 : Nat) : Int))), (4, .int (iI ((f1 : Nat) : Int))), (5, .int (iI ((qn : Nat) : Int))), (6, .int (iI ((gsh (An f0 &&& An f1) (min f0 f1) : Nat) : Int)))] dX3_writeMerge_42 (by decide) rfl ?_
    refine v_lv (lv' := [(0, .ref (sa)), (1, .ref (ta)), (2, .int (iI ((r0 : Nat) : Int))), (3, .int (iI ((f0 : Nat) : Int))), (4, .int (iI ((f1 : Nat) : Int))), (5, .int (iI ((qn : Nat) : Int))), (7, .int (iI ((0 : Nat) : Int)))]) [1, 2, 3, 4, 5, 6, 0] rfl ?_
    refine v_ws (ws' := wScr g sa la qa ++ (wLog g la l1 l2 l3 l4 l5 l6 l7 l8 l9 deed first second item side picked qcnt An An cm ++ (wQuo g qa q1 q2 q3 qi qo qs qc ++ (wTab g ta tp tlo thi (qp vals cn qi qo qs f0 f1 r0 (rowP T r0 12 (mgF T f0 f1 (gsh (An f0 &&& An f1) (min f0 f1)))) 0) (qp vals cn qi qo qs f0 f1 r0 (rowP T r0 12 (mgF T f0 f1 (gsh (An f0 &&& An f1) (min f0 f1)))) 0) ++ (wPal g tp tv tr vals ris cn ++ ([])))))) rfl ?_
    refine v_lp1 (X := Nat) (fun q => wScr g sa la qa ++ (wLog g la l1 l2 l3 l4 l5 l6 l7 l8 l9 deed first second item side picked qcnt An An cm ++ (wQuo g qa q1 q2 q3 qi qo qs qc ++ (wTab g ta tp tlo thi (qp vals cn qi qo qs f0 f1 r0 (rowP T r0 12 (mgF T f0 f1 (gsh (An f0 &&& An f1) (min f0 f1)))) q) (qp vals cn qi qo qs f0 f1 r0 (rowP T r0 12 (mgF T f0 f1 (gsh (An f0 &&& An f1) (min f0 f1)))) q) ++ (wPal g tp tv tr vals ris cn ++ ([])))))) (fun q => [(0, .ref (sa)), (1, .ref (ta)), (2, .int (iI ((r0 : Nat) : Int))), (3, .int (iI ((f0 : Nat) : Int))), (4, .int (iI ((f1 : Nat) : Int))), (5, .int (iI ((qn : Nat) : Int))), (7, .int (iI ((q : Nat) : Int)))]) (fun q => qn - q) (fun q => q ≤ qn) ?_ (0) (Nat.zero_le _)
    intro q hJ44 ih44
    try dsimp only at hJ44 ⊢
    refine v_iload C dX3_writeMerge_44 6 rfl ?_
    refine v_iload C dX3_writeMerge_46 5 rfl ?_
    refine v_icmp_ge C 137 dX3_writeMerge_48 (by decide) ⟨by omega, by omega⟩ ⟨by omega, by omega⟩ (fun c_4 => ?_) (fun c_4 => ?_)
    ·
      obtain rfl : q = qn := by omega
      exact (v_vret C hr hl () (by decide) (by decide) rfl trivial dX3_writeMerge_137)
    ·
      obtain ⟨hb1, hb2, hb3, hb4⟩ := hqb q (by omega)
      refine v_aload_n C dX3_writeMerge_51 rfl 0 rfl ?_
      refine v_get C 0 (kf := 1) rfl rfl (by decide) inX3_writeMerge_3 lkX3_writeMerge_15 rfl rfl dX3_writeMerge_52 ?_
      refine v_iload C dX3_writeMerge_55 6 rfl ?_
      refine v_aload_n C dX3_writeMerge_57 rfl 1 rfl ?_
      refine v_iload_n C dX3_writeMerge_58 rfl 3 rfl ?_
      refine v_invVI C (As := [.int (iI ((q : Nat) : Int)), .ref (ta), .int (iI ((f0 : Nat) : Int))]) (q0 := 0) (ci := 2) (kX2_stateIn l g (qa := qa) (q1 := q1) (q2 := q2) (q3 := q3) (qi := qi) (qo := qo) (qs := qs) (qc := qc) (ta := ta) (tp := tp) (tlo := tlo) (thi := thi) (T := qp vals cn qi qo qs f0 f1 r0 (rowP T r0 12 (mgF T f0 f1 (gsh (An f0 &&& An f1) (min f0 f1)))) q) (tv := tv) (tr := tr) (vals := vals) (ris := ris) (cn := cn) (q0 := q) (r0 := f0) (by omega) (by omega) (by omega) hqb hv) (cwV 3 C.2.2.2.2.1 gX3_writeMerge_X2_stateIn rfl rfl rfl (by decide +kernel) ⟨Nat.le_of_ble_eq_true rfl, Nat.le_of_ble_eq_true rfl⟩) [wScr g sa la qa, wLog g la l1 l2 l3 l4 l5 l6 l7 l8 l9 deed first second item side picked qcnt An An cm, wQuo g qa q1 q2 q3 qi qo qs qc, wTab g ta tp tlo thi (qp vals cn qi qo qs f0 f1 r0 (rowP T r0 12 (mgF T f0 f1 (gsh (An f0 &&& An f1) (min f0 f1)))) q) (qp vals cn qi qo qs f0 f1 r0 (rowP T r0 12 (mgF T f0 f1 (gsh (An f0 &&& An f1) (min f0 f1)))) q), wPal g tp tv tr vals ris cn] [2, 3, 4] [0, 1] [] (fun _ => [wScr g sa la qa, wLog g la l1 l2 l3 l4 l5 l6 l7 l8 l9 deed first second item side picked qcnt An An cm, wQuo g qa q1 q2 q3 qi qo qs qc, wTab g ta tp tlo thi (qp vals cn qi qo qs f0 f1 r0 (rowP T r0 12 (mgF T f0 f1 (gsh (An f0 &&& An f1) (min f0 f1)))) q) (qp vals cn qi qo qs f0 f1 r0 (rowP T r0 12 (mgF T f0 f1 (gsh (An f0 &&& An f1) (min f0 f1)))) q), wPal g tp tv tr vals ris cn]) (fun _ => wScr g sa la qa ++ (wLog g la l1 l2 l3 l4 l5 l6 l7 l8 l9 deed first second item side picked qcnt An An cm ++ (wQuo g qa q1 q2 q3 qi qo qs qc ++ (wTab g ta tp tlo thi (qp vals cn qi qo qs f0 f1 r0 (rowP T r0 12 (mgF T f0 f1 (gsh (An f0 &&& An f1) (min f0 f1)))) q) (qp vals cn qi qo qs f0 f1 r0 (rowP T r0 12 (mgF T f0 f1 (gsh (An f0 &&& An f1) (min f0 f1)))) q) ++ (wPal g tp tv tr vals ris cn ++ ([])))))) rfl rfl rfl (fun _ => rfl) (fun _ => rfl) (fun _ => rfl) (fun _ => rfl) rfl rfl rfl rfl rfl (Nat.le_of_ble_eq_true rfl) dX3_writeMerge_59 ⟨by decide, by decide⟩ (fun r_6 _ h_5 => ?_)
      subst h_5
      refine v_if_ne C 131 dX3_writeMerge_62 (by decide) (qst31 _ _ _ _ _) (fun c_7 => ?_) (fun c_7 => ?_)
      ·
        refine v_iinc C [(7, .int (iI (((q : Nat) : Int) + 1))), (0, .ref (sa)), (1, .ref (ta)), (2, .int (iI ((r0 : Nat) : Int))), (3, .int (iI ((f0 : Nat) : Int))), (4, .int (iI ((f1 : Nat) : Int))), (5, .int (iI ((qn : Nat) : Int)))] dX3_writeMerge_131 6 rfl (by decide) rfl ?_
        rw [show ((q : Nat) : Int) + 1 = ((q + 1 : Nat) : Int) from rfl]
        refine v_goto C 44 dX3_writeMerge_134 (by decide) ?_
        refine v_lv (lv' := [(0, .ref (sa)), (1, .ref (ta)), (2, .int (iI ((r0 : Nat) : Int))), (3, .int (iI ((f0 : Nat) : Int))), (4, .int (iI ((f1 : Nat) : Int))), (5, .int (iI ((qn : Nat) : Int))), (7, .int (iI ((q + 1 : Nat) : Int)))]) [1, 2, 3, 4, 5, 6, 0] rfl ?_
        refine v_ws (ws' := wScr g sa la qa ++ (wLog g la l1 l2 l3 l4 l5 l6 l7 l8 l9 deed first second item side picked qcnt An An cm ++ (wQuo g qa q1 q2 q3 qi qo qs qc ++ (wTab g ta tp tlo thi (qp vals cn qi qo qs f0 f1 r0 (rowP T r0 12 (mgF T f0 f1 (gsh (An f0 &&& An f1) (min f0 f1)))) (q + 1)) (qp vals cn qi qo qs f0 f1 r0 (rowP T r0 12 (mgF T f0 f1 (gsh (An f0 &&& An f1) (min f0 f1)))) (q + 1)) ++ (wPal g tp tv tr vals ris cn ++ ([])))))) (by show _ = wScr g sa la qa ++ (_ ++ (_ ++ (wTab g ta tp tlo thi (qstep vals cn qi qo qs f0 f1 r0 (qp vals cn qi qo qs f0 f1 r0 (rowP T r0 12 (mgF T f0 f1 (gsh (An f0 &&& An f1) (min f0 f1)))) q) q) (qstep vals cn qi qo qs f0 f1 r0 (qp vals cn qi qo qs f0 f1 r0 (rowP T r0 12 (mgF T f0 f1 (gsh (An f0 &&& An f1) (min f0 f1)))) q) q) ++ (_ ++ ([]))))); unfold qstep; rw [if_neg (fun h => c_7 h.1)]) ?_
        exact ih44 (q + 1) (by omega) (by omega)
      ·
        refine v_aload_n C dX3_writeMerge_65 rfl 0 rfl ?_
        refine v_get C 0 (kf := 1) rfl rfl (by decide) inX3_writeMerge_3 lkX3_writeMerge_15 rfl rfl dX3_writeMerge_66 ?_
        refine v_iload C dX3_writeMerge_69 6 rfl ?_
        refine v_aload_n C dX3_writeMerge_71 rfl 1 rfl ?_
        refine v_iload C dX3_writeMerge_72 4 rfl ?_
        refine v_invVI C (As := [.int (iI ((q : Nat) : Int)), .ref (ta), .int (iI ((f1 : Nat) : Int))]) (q0 := 0) (ci := 2) (kX2_stateIn l g (qa := qa) (q1 := q1) (q2 := q2) (q3 := q3) (qi := qi) (qo := qo) (qs := qs) (qc := qc) (ta := ta) (tp := tp) (tlo := tlo) (thi := thi) (T := qp vals cn qi qo qs f0 f1 r0 (rowP T r0 12 (mgF T f0 f1 (gsh (An f0 &&& An f1) (min f0 f1)))) q) (tv := tv) (tr := tr) (vals := vals) (ris := ris) (cn := cn) (q0 := q) (r0 := f1) (by omega) (by omega) (by omega) hqb hv) (cwV 3 C.2.2.2.2.1 gX3_writeMerge_X2_stateIn rfl rfl rfl (by decide +kernel) ⟨Nat.le_of_ble_eq_true rfl, Nat.le_of_ble_eq_true rfl⟩) [wScr g sa la qa, wLog g la l1 l2 l3 l4 l5 l6 l7 l8 l9 deed first second item side picked qcnt An An cm, wQuo g qa q1 q2 q3 qi qo qs qc, wTab g ta tp tlo thi (qp vals cn qi qo qs f0 f1 r0 (rowP T r0 12 (mgF T f0 f1 (gsh (An f0 &&& An f1) (min f0 f1)))) q) (qp vals cn qi qo qs f0 f1 r0 (rowP T r0 12 (mgF T f0 f1 (gsh (An f0 &&& An f1) (min f0 f1)))) q), wPal g tp tv tr vals ris cn] [2, 3, 4] [0, 1] [] (fun _ => [wScr g sa la qa, wLog g la l1 l2 l3 l4 l5 l6 l7 l8 l9 deed first second item side picked qcnt An An cm, wQuo g qa q1 q2 q3 qi qo qs qc, wTab g ta tp tlo thi (qp vals cn qi qo qs f0 f1 r0 (rowP T r0 12 (mgF T f0 f1 (gsh (An f0 &&& An f1) (min f0 f1)))) q) (qp vals cn qi qo qs f0 f1 r0 (rowP T r0 12 (mgF T f0 f1 (gsh (An f0 &&& An f1) (min f0 f1)))) q), wPal g tp tv tr vals ris cn]) (fun _ => wScr g sa la qa ++ (wLog g la l1 l2 l3 l4 l5 l6 l7 l8 l9 deed first second item side picked qcnt An An cm ++ (wQuo g qa q1 q2 q3 qi qo qs qc ++ (wTab g ta tp tlo thi (qp vals cn qi qo qs f0 f1 r0 (rowP T r0 12 (mgF T f0 f1 (gsh (An f0 &&& An f1) (min f0 f1)))) q) (qp vals cn qi qo qs f0 f1 r0 (rowP T r0 12 (mgF T f0 f1 (gsh (An f0 &&& An f1) (min f0 f1)))) q) ++ (wPal g tp tv tr vals ris cn ++ ([])))))) rfl rfl rfl (fun _ => rfl) (fun _ => rfl) (fun _ => rfl) (fun _ => rfl) rfl rfl rfl rfl rfl (Nat.le_of_ble_eq_true rfl) dX3_writeMerge_74 ⟨by decide, by decide⟩ (fun r_9 _ h_8 => ?_)
        subst h_8
        refine v_if_ne C 131 dX3_writeMerge_77 (by decide) (qst31 _ _ _ _ _) (fun c_10 => ?_) (fun c_10 => ?_)
        ·
          refine v_iinc C [(7, .int (iI (((q : Nat) : Int) + 1))), (0, .ref (sa)), (1, .ref (ta)), (2, .int (iI ((r0 : Nat) : Int))), (3, .int (iI ((f0 : Nat) : Int))), (4, .int (iI ((f1 : Nat) : Int))), (5, .int (iI ((qn : Nat) : Int)))] dX3_writeMerge_131 6 rfl (by decide) rfl ?_
          rw [show ((q : Nat) : Int) + 1 = ((q + 1 : Nat) : Int) from rfl]
          refine v_goto C 44 dX3_writeMerge_134 (by decide) ?_
          refine v_lv (lv' := [(0, .ref (sa)), (1, .ref (ta)), (2, .int (iI ((r0 : Nat) : Int))), (3, .int (iI ((f0 : Nat) : Int))), (4, .int (iI ((f1 : Nat) : Int))), (5, .int (iI ((qn : Nat) : Int))), (7, .int (iI ((q + 1 : Nat) : Int)))]) [1, 2, 3, 4, 5, 6, 0] rfl ?_
          refine v_ws (ws' := wScr g sa la qa ++ (wLog g la l1 l2 l3 l4 l5 l6 l7 l8 l9 deed first second item side picked qcnt An An cm ++ (wQuo g qa q1 q2 q3 qi qo qs qc ++ (wTab g ta tp tlo thi (qp vals cn qi qo qs f0 f1 r0 (rowP T r0 12 (mgF T f0 f1 (gsh (An f0 &&& An f1) (min f0 f1)))) (q + 1)) (qp vals cn qi qo qs f0 f1 r0 (rowP T r0 12 (mgF T f0 f1 (gsh (An f0 &&& An f1) (min f0 f1)))) (q + 1)) ++ (wPal g tp tv tr vals ris cn ++ ([])))))) (by show _ = wScr g sa la qa ++ (_ ++ (_ ++ (wTab g ta tp tlo thi (qstep vals cn qi qo qs f0 f1 r0 (qp vals cn qi qo qs f0 f1 r0 (rowP T r0 12 (mgF T f0 f1 (gsh (An f0 &&& An f1) (min f0 f1)))) q) q) (qstep vals cn qi qo qs f0 f1 r0 (qp vals cn qi qo qs f0 f1 r0 (rowP T r0 12 (mgF T f0 f1 (gsh (An f0 &&& An f1) (min f0 f1)))) q) q) ++ (_ ++ ([]))))); unfold qstep; rw [if_neg (fun h => c_10 h.2.1)]) ?_
          exact ih44 (q + 1) (by omega) (by omega)
        ·
          refine v_aload_n C dX3_writeMerge_80 rfl 0 rfl ?_
          refine v_get C 0 (kf := 1) rfl rfl (by decide) inX3_writeMerge_3 lkX3_writeMerge_15 rfl rfl dX3_writeMerge_81 ?_
          refine v_iload C dX3_writeMerge_84 6 rfl ?_
          refine v_aload_n C dX3_writeMerge_86 rfl 1 rfl ?_
          refine v_iload_n C dX3_writeMerge_87 rfl 2 rfl ?_
          refine v_invVI C (As := [.int (iI ((q : Nat) : Int)), .ref (ta), .int (iI ((r0 : Nat) : Int))]) (q0 := 0) (ci := 2) (kX2_stateIn l g (qa := qa) (q1 := q1) (q2 := q2) (q3 := q3) (qi := qi) (qo := qo) (qs := qs) (qc := qc) (ta := ta) (tp := tp) (tlo := tlo) (thi := thi) (T := qp vals cn qi qo qs f0 f1 r0 (rowP T r0 12 (mgF T f0 f1 (gsh (An f0 &&& An f1) (min f0 f1)))) q) (tv := tv) (tr := tr) (vals := vals) (ris := ris) (cn := cn) (q0 := q) (r0 := r0) (by omega) (by omega) (by omega) hqb hv) (cwV 3 C.2.2.2.2.1 gX3_writeMerge_X2_stateIn rfl rfl rfl (by decide +kernel) ⟨Nat.le_of_ble_eq_true rfl, Nat.le_of_ble_eq_true rfl⟩) [wScr g sa la qa, wLog g la l1 l2 l3 l4 l5 l6 l7 l8 l9 deed first second item side picked qcnt An An cm, wQuo g qa q1 q2 q3 qi qo qs qc, wTab g ta tp tlo thi (qp vals cn qi qo qs f0 f1 r0 (rowP T r0 12 (mgF T f0 f1 (gsh (An f0 &&& An f1) (min f0 f1)))) q) (qp vals cn qi qo qs f0 f1 r0 (rowP T r0 12 (mgF T f0 f1 (gsh (An f0 &&& An f1) (min f0 f1)))) q), wPal g tp tv tr vals ris cn] [2, 3, 4] [0, 1] [] (fun _ => [wScr g sa la qa, wLog g la l1 l2 l3 l4 l5 l6 l7 l8 l9 deed first second item side picked qcnt An An cm, wQuo g qa q1 q2 q3 qi qo qs qc, wTab g ta tp tlo thi (qp vals cn qi qo qs f0 f1 r0 (rowP T r0 12 (mgF T f0 f1 (gsh (An f0 &&& An f1) (min f0 f1)))) q) (qp vals cn qi qo qs f0 f1 r0 (rowP T r0 12 (mgF T f0 f1 (gsh (An f0 &&& An f1) (min f0 f1)))) q), wPal g tp tv tr vals ris cn]) (fun _ => wScr g sa la qa ++ (wLog g la l1 l2 l3 l4 l5 l6 l7 l8 l9 deed first second item side picked qcnt An An cm ++ (wQuo g qa q1 q2 q3 qi qo qs qc ++ (wTab g ta tp tlo thi (qp vals cn qi qo qs f0 f1 r0 (rowP T r0 12 (mgF T f0 f1 (gsh (An f0 &&& An f1) (min f0 f1)))) q) (qp vals cn qi qo qs f0 f1 r0 (rowP T r0 12 (mgF T f0 f1 (gsh (An f0 &&& An f1) (min f0 f1)))) q) ++ (wPal g tp tv tr vals ris cn ++ ([])))))) rfl rfl rfl (fun _ => rfl) (fun _ => rfl) (fun _ => rfl) (fun _ => rfl) rfl rfl rfl rfl rfl (Nat.le_of_ble_eq_true rfl) dX3_writeMerge_88 ⟨by decide, by decide⟩ (fun r_12 _ h_11 => ?_)
          subst h_11
          refine v_iconst C (z := 1) dX3_writeMerge_91 ?_
          refine v_icmp_ne C 131 dX3_writeMerge_92 (by decide) (qst31 _ _ _ _ _) (b31_lit _ rfl) (fun c_13 => ?_) (fun c_13 => ?_)
          ·
            refine v_iinc C [(7, .int (iI (((q : Nat) : Int) + 1))), (0, .ref (sa)), (1, .ref (ta)), (2, .int (iI ((r0 : Nat) : Int))), (3, .int (iI ((f0 : Nat) : Int))), (4, .int (iI ((f1 : Nat) : Int))), (5, .int (iI ((qn : Nat) : Int)))] dX3_writeMerge_131 6 rfl (by decide) rfl ?_
            rw [show ((q : Nat) : Int) + 1 = ((q + 1 : Nat) : Int) from rfl]
            refine v_goto C 44 dX3_writeMerge_134 (by decide) ?_
            refine v_lv (lv' := [(0, .ref (sa)), (1, .ref (ta)), (2, .int (iI ((r0 : Nat) : Int))), (3, .int (iI ((f0 : Nat) : Int))), (4, .int (iI ((f1 : Nat) : Int))), (5, .int (iI ((qn : Nat) : Int))), (7, .int (iI ((q + 1 : Nat) : Int)))]) [1, 2, 3, 4, 5, 6, 0] rfl ?_
            refine v_ws (ws' := wScr g sa la qa ++ (wLog g la l1 l2 l3 l4 l5 l6 l7 l8 l9 deed first second item side picked qcnt An An cm ++ (wQuo g qa q1 q2 q3 qi qo qs qc ++ (wTab g ta tp tlo thi (qp vals cn qi qo qs f0 f1 r0 (rowP T r0 12 (mgF T f0 f1 (gsh (An f0 &&& An f1) (min f0 f1)))) (q + 1)) (qp vals cn qi qo qs f0 f1 r0 (rowP T r0 12 (mgF T f0 f1 (gsh (An f0 &&& An f1) (min f0 f1)))) (q + 1)) ++ (wPal g tp tv tr vals ris cn ++ ([])))))) (by show _ = wScr g sa la qa ++ (_ ++ (_ ++ (wTab g ta tp tlo thi (qstep vals cn qi qo qs f0 f1 r0 (qp vals cn qi qo qs f0 f1 r0 (rowP T r0 12 (mgF T f0 f1 (gsh (An f0 &&& An f1) (min f0 f1)))) q) q) (qstep vals cn qi qo qs f0 f1 r0 (qp vals cn qi qo qs f0 f1 r0 (rowP T r0 12 (mgF T f0 f1 (gsh (An f0 &&& An f1) (min f0 f1)))) q) q) ++ (_ ++ ([]))))); unfold qstep; rw [if_neg (fun h => c_13 h.2.2)]) ?_
            exact ih44 (q + 1) (by omega) (by omega)
          ·
            refine v_aload_n C dX3_writeMerge_95 rfl 1 rfl ?_
            refine v_iload_n C dX3_writeMerge_96 rfl 2 rfl ?_
            refine v_aload_n C dX3_writeMerge_97 rfl 0 rfl ?_
            refine v_get C 0 (kf := 1) rfl rfl (by decide) inX3_writeMerge_3 lkX3_writeMerge_15 rfl rfl dX3_writeMerge_98 ?_
            refine v_get C 11 (kf := 0) rfl rfl (by decide) inX3_writeMerge_2 lkX3_writeMerge_79 rfl rfl dX3_writeMerge_101 ?_
            refine v_iload C dX3_writeMerge_104 6 rfl ?_
            refine v_ialdn C 12 (q) rfl rfl (by omega) (by decide) dX3_writeMerge_106 ?_
            refine v_iload_n C dX3_writeMerge_107 rfl 3 rfl ?_
            refine v_iload C dX3_writeMerge_108 4 rfl ?_
            refine v_invVV C (As := [.int (iI ((r0 : Nat) : Int)), .int (iI ((qi (q) : Nat) : Int)), .int (iI ((f0 : Nat) : Int)), .int (iI ((f1 : Nat) : Int))]) (q0 := 0) (ci := 4) (kX4_holdAll l g (ta := ta) (tp := tp) (tlo := tlo) (thi := thi) (T := qp vals cn qi qo qs f0 f1 r0 (rowP T r0 12 (mgF T f0 f1 (gsh (An f0 &&& An f1) (min f0 f1)))) q) (r0 := r0) (i0 := qi (q)) (f0 := f0) (f1 := f1) (by omega) (by omega) (by omega) (by omega)) (cwV 4 C.2.2.2.2.1 gX3_writeMerge_X4_holdAll rfl rfl rfl (by decide +kernel) ⟨Nat.le_of_ble_eq_true rfl, Nat.le_of_ble_eq_true rfl⟩) [wScr g sa la qa, wLog g la l1 l2 l3 l4 l5 l6 l7 l8 l9 deed first second item side picked qcnt An An cm, wQuo g qa q1 q2 q3 qi qo qs qc, wTab g ta tp tlo thi (qp vals cn qi qo qs f0 f1 r0 (rowP T r0 12 (mgF T f0 f1 (gsh (An f0 &&& An f1) (min f0 f1)))) q) (qp vals cn qi qo qs f0 f1 r0 (rowP T r0 12 (mgF T f0 f1 (gsh (An f0 &&& An f1) (min f0 f1)))) q), wPal g tp tv tr vals ris cn] [3] [0, 1, 2, 4] [] (fun _ => [wScr g sa la qa, wLog g la l1 l2 l3 l4 l5 l6 l7 l8 l9 deed first second item side picked qcnt An An cm, wQuo g qa q1 q2 q3 qi qo qs qc, wTab g ta tp tlo thi (updN (qp vals cn qi qo qs f0 f1 r0 (rowP T r0 12 (mgF T f0 f1 (gsh (An f0 &&& An f1) (min f0 f1)))) q) (12 * r0 + (qi (q))) ((qp vals cn qi qo qs f0 f1 r0 (rowP T r0 12 (mgF T f0 f1 (gsh (An f0 &&& An f1) (min f0 f1)))) q) (12 * f0 + (qi (q))) ||| (qp vals cn qi qo qs f0 f1 r0 (rowP T r0 12 (mgF T f0 f1 (gsh (An f0 &&& An f1) (min f0 f1)))) q) (12 * f1 + (qi (q))))) (updN (qp vals cn qi qo qs f0 f1 r0 (rowP T r0 12 (mgF T f0 f1 (gsh (An f0 &&& An f1) (min f0 f1)))) q) (12 * r0 + (qi (q))) ((qp vals cn qi qo qs f0 f1 r0 (rowP T r0 12 (mgF T f0 f1 (gsh (An f0 &&& An f1) (min f0 f1)))) q) (12 * f0 + (qi (q))) ||| (qp vals cn qi qo qs f0 f1 r0 (rowP T r0 12 (mgF T f0 f1 (gsh (An f0 &&& An f1) (min f0 f1)))) q) (12 * f1 + (qi (q))))), wPal g tp tv tr vals ris cn]) (fun _ => wScr g sa la qa ++ (wLog g la l1 l2 l3 l4 l5 l6 l7 l8 l9 deed first second item side picked qcnt An An cm ++ (wQuo g qa q1 q2 q3 qi qo qs qc ++ (wTab g ta tp tlo thi (updN (qp vals cn qi qo qs f0 f1 r0 (rowP T r0 12 (mgF T f0 f1 (gsh (An f0 &&& An f1) (min f0 f1)))) q) (12 * r0 + (qi (q))) ((qp vals cn qi qo qs f0 f1 r0 (rowP T r0 12 (mgF T f0 f1 (gsh (An f0 &&& An f1) (min f0 f1)))) q) (12 * f0 + (qi (q))) ||| (qp vals cn qi qo qs f0 f1 r0 (rowP T r0 12 (mgF T f0 f1 (gsh (An f0 &&& An f1) (min f0 f1)))) q) (12 * f1 + (qi (q))))) (updN (qp vals cn qi qo qs f0 f1 r0 (rowP T r0 12 (mgF T f0 f1 (gsh (An f0 &&& An f1) (min f0 f1)))) q) (12 * r0 + (qi (q))) ((qp vals cn qi qo qs f0 f1 r0 (rowP T r0 12 (mgF T f0 f1 (gsh (An f0 &&& An f1) (min f0 f1)))) q) (12 * f0 + (qi (q))) ||| (qp vals cn qi qo qs f0 f1 r0 (rowP T r0 12 (mgF T f0 f1 (gsh (An f0 &&& An f1) (min f0 f1)))) q) (12 * f1 + (qi (q))))) ++ (wPal g tp tv tr vals ris cn ++ ([])))))) rfl rfl rfl (fun _ => rfl) (fun _ => rfl) (fun _ => rfl) (fun _ => rfl) rfl rfl rfl rfl rfl (Nat.le_of_ble_eq_true rfl) dX3_writeMerge_110 ⟨by decide, by decide⟩ (fun _ h_14 => ?_)
            refine v_aload_n C dX3_writeMerge_113 rfl 1 rfl ?_
            refine v_iload_n C dX3_writeMerge_114 rfl 2 rfl ?_
            refine v_aload_n C dX3_writeMerge_115 rfl 0 rfl ?_
            refine v_get C 0 (kf := 1) rfl rfl (by decide) inX3_writeMerge_3 lkX3_writeMerge_15 rfl rfl dX3_writeMerge_116 ?_
            refine v_get C 11 (kf := 1) rfl rfl (by decide) inX3_writeMerge_2 lkX3_writeMerge_86 rfl rfl dX3_writeMerge_119 ?_
            refine v_iload C dX3_writeMerge_122 6 rfl ?_
            refine v_ialdn C 13 (q) rfl rfl (by omega) (by decide) dX3_writeMerge_124 ?_
            refine v_iload_n C dX3_writeMerge_125 rfl 3 rfl ?_
            refine v_iload C dX3_writeMerge_126 4 rfl ?_
            refine v_invVV C (As := [.int (iI ((r0 : Nat) : Int)), .int (iI ((qo (q) : Nat) : Int)), .int (iI ((f0 : Nat) : Int)), .int (iI ((f1 : Nat) : Int))]) (q0 := 0) (ci := 4) (kX4_holdAll l g (ta := ta) (tp := tp) (tlo := tlo) (thi := thi) (T := updN (qp vals cn qi qo qs f0 f1 r0 (rowP T r0 12 (mgF T f0 f1 (gsh (An f0 &&& An f1) (min f0 f1)))) q) (12 * r0 + (qi (q))) ((qp vals cn qi qo qs f0 f1 r0 (rowP T r0 12 (mgF T f0 f1 (gsh (An f0 &&& An f1) (min f0 f1)))) q) (12 * f0 + (qi (q))) ||| (qp vals cn qi qo qs f0 f1 r0 (rowP T r0 12 (mgF T f0 f1 (gsh (An f0 &&& An f1) (min f0 f1)))) q) (12 * f1 + (qi (q))))) (r0 := r0) (i0 := qo (q)) (f0 := f0) (f1 := f1) (by omega) (by omega) (by omega) (by omega)) (cwV 4 C.2.2.2.2.1 gX3_writeMerge_X4_holdAll rfl rfl rfl (by decide +kernel) ⟨Nat.le_of_ble_eq_true rfl, Nat.le_of_ble_eq_true rfl⟩) [wScr g sa la qa, wLog g la l1 l2 l3 l4 l5 l6 l7 l8 l9 deed first second item side picked qcnt An An cm, wQuo g qa q1 q2 q3 qi qo qs qc, wTab g ta tp tlo thi (updN (qp vals cn qi qo qs f0 f1 r0 (rowP T r0 12 (mgF T f0 f1 (gsh (An f0 &&& An f1) (min f0 f1)))) q) (12 * r0 + (qi (q))) ((qp vals cn qi qo qs f0 f1 r0 (rowP T r0 12 (mgF T f0 f1 (gsh (An f0 &&& An f1) (min f0 f1)))) q) (12 * f0 + (qi (q))) ||| (qp vals cn qi qo qs f0 f1 r0 (rowP T r0 12 (mgF T f0 f1 (gsh (An f0 &&& An f1) (min f0 f1)))) q) (12 * f1 + (qi (q))))) (updN (qp vals cn qi qo qs f0 f1 r0 (rowP T r0 12 (mgF T f0 f1 (gsh (An f0 &&& An f1) (min f0 f1)))) q) (12 * r0 + (qi (q))) ((qp vals cn qi qo qs f0 f1 r0 (rowP T r0 12 (mgF T f0 f1 (gsh (An f0 &&& An f1) (min f0 f1)))) q) (12 * f0 + (qi (q))) ||| (qp vals cn qi qo qs f0 f1 r0 (rowP T r0 12 (mgF T f0 f1 (gsh (An f0 &&& An f1) (min f0 f1)))) q) (12 * f1 + (qi (q))))), wPal g tp tv tr vals ris cn] [3] [0, 1, 2, 4] [] (fun _ => [wScr g sa la qa, wLog g la l1 l2 l3 l4 l5 l6 l7 l8 l9 deed first second item side picked qcnt An An cm, wQuo g qa q1 q2 q3 qi qo qs qc, wTab g ta tp tlo thi (updN (updN (qp vals cn qi qo qs f0 f1 r0 (rowP T r0 12 (mgF T f0 f1 (gsh (An f0 &&& An f1) (min f0 f1)))) q) (12 * r0 + (qi (q))) ((qp vals cn qi qo qs f0 f1 r0 (rowP T r0 12 (mgF T f0 f1 (gsh (An f0 &&& An f1) (min f0 f1)))) q) (12 * f0 + (qi (q))) ||| (qp vals cn qi qo qs f0 f1 r0 (rowP T r0 12 (mgF T f0 f1 (gsh (An f0 &&& An f1) (min f0 f1)))) q) (12 * f1 + (qi (q))))) (12 * r0 + (qo (q))) ((updN (qp vals cn qi qo qs f0 f1 r0 (rowP T r0 12 (mgF T f0 f1 (gsh (An f0 &&& An f1) (min f0 f1)))) q) (12 * r0 + (qi (q))) ((qp vals cn qi qo qs f0 f1 r0 (rowP T r0 12 (mgF T f0 f1 (gsh (An f0 &&& An f1) (min f0 f1)))) q) (12 * f0 + (qi (q))) ||| (qp vals cn qi qo qs f0 f1 r0 (rowP T r0 12 (mgF T f0 f1 (gsh (An f0 &&& An f1) (min f0 f1)))) q) (12 * f1 + (qi (q))))) (12 * f0 + (qo (q))) ||| (updN (qp vals cn qi qo qs f0 f1 r0 (rowP T r0 12 (mgF T f0 f1 (gsh (An f0 &&& An f1) (min f0 f1)))) q) (12 * r0 + (qi (q))) ((qp vals cn qi qo qs f0 f1 r0 (rowP T r0 12 (mgF T f0 f1 (gsh (An f0 &&& An f1) (min f0 f1)))) q) (12 * f0 + (qi (q))) ||| (qp vals cn qi qo qs f0 f1 r0 (rowP T r0 12 (mgF T f0 f1 (gsh (An f0 &&& An f1) (min f0 f1)))) q) (12 * f1 + (qi (q))))) (12 * f1 + (qo (q))))) (updN (updN (qp vals cn qi qo qs f0 f1 r0 (rowP T r0 12 (mgF T f0 f1 (gsh (An f0 &&& An f1) (min f0 f1)))) q) (12 * r0 + (qi (q))) ((qp vals cn qi qo qs f0 f1 r0 (rowP T r0 12 (mgF T f0 f1 (gsh (An f0 &&& An f1) (min f0 f1)))) q) (12 * f0 + (qi (q))) ||| (qp vals cn qi qo qs f0 f1 r0 (rowP T r0 12 (mgF T f0 f1 (gsh (An f0 &&& An f1) (min f0 f1)))) q) (12 * f1 + (qi (q))))) (12 * r0 + (qo (q))) ((updN (qp vals cn qi qo qs f0 f1 r0 (rowP T r0 12 (mgF T f0 f1 (gsh (An f0 &&& An f1) (min f0 f1)))) q) (12 * r0 + (qi (q))) ((qp vals cn qi qo qs f0 f1 r0 (rowP T r0 12 (mgF T f0 f1 (gsh (An f0 &&& An f1) (min f0 f1)))) q) (12 * f0 + (qi (q))) ||| (qp vals cn qi qo qs f0 f1 r0 (rowP T r0 12 (mgF T f0 f1 (gsh (An f0 &&& An f1) (min f0 f1)))) q) (12 * f1 + (qi (q))))) (12 * f0 + (qo (q))) ||| (updN (qp vals cn qi qo qs f0 f1 r0 (rowP T r0 12 (mgF T f0 f1 (gsh (An f0 &&& An f1) (min f0 f1)))) q) (12 * r0 + (qi (q))) ((qp vals cn qi qo qs f0 f1 r0 (rowP T r0 12 (mgF T f0 f1 (gsh (An f0 &&& An f1) (min f0 f1)))) q) (12 * f0 + (qi (q))) ||| (qp vals cn qi qo qs f0 f1 r0 (rowP T r0 12 (mgF T f0 f1 (gsh (An f0 &&& An f1) (min f0 f1)))) q) (12 * f1 + (qi (q))))) (12 * f1 + (qo (q))))), wPal g tp tv tr vals ris cn]) (fun _ => wScr g sa la qa ++ (wLog g la l1 l2 l3 l4 l5 l6 l7 l8 l9 deed first second item side picked qcnt An An cm ++ (wQuo g qa q1 q2 q3 qi qo qs qc ++ (wTab g ta tp tlo thi (updN (updN (qp vals cn qi qo qs f0 f1 r0 (rowP T r0 12 (mgF T f0 f1 (gsh (An f0 &&& An f1) (min f0 f1)))) q) (12 * r0 + (qi (q))) ((qp vals cn qi qo qs f0 f1 r0 (rowP T r0 12 (mgF T f0 f1 (gsh (An f0 &&& An f1) (min f0 f1)))) q) (12 * f0 + (qi (q))) ||| (qp vals cn qi qo qs f0 f1 r0 (rowP T r0 12 (mgF T f0 f1 (gsh (An f0 &&& An f1) (min f0 f1)))) q) (12 * f1 + (qi (q))))) (12 * r0 + (qo (q))) ((updN (qp vals cn qi qo qs f0 f1 r0 (rowP T r0 12 (mgF T f0 f1 (gsh (An f0 &&& An f1) (min f0 f1)))) q) (12 * r0 + (qi (q))) ((qp vals cn qi qo qs f0 f1 r0 (rowP T r0 12 (mgF T f0 f1 (gsh (An f0 &&& An f1) (min f0 f1)))) q) (12 * f0 + (qi (q))) ||| (qp vals cn qi qo qs f0 f1 r0 (rowP T r0 12 (mgF T f0 f1 (gsh (An f0 &&& An f1) (min f0 f1)))) q) (12 * f1 + (qi (q))))) (12 * f0 + (qo (q))) ||| (updN (qp vals cn qi qo qs f0 f1 r0 (rowP T r0 12 (mgF T f0 f1 (gsh (An f0 &&& An f1) (min f0 f1)))) q) (12 * r0 + (qi (q))) ((qp vals cn qi qo qs f0 f1 r0 (rowP T r0 12 (mgF T f0 f1 (gsh (An f0 &&& An f1) (min f0 f1)))) q) (12 * f0 + (qi (q))) ||| (qp vals cn qi qo qs f0 f1 r0 (rowP T r0 12 (mgF T f0 f1 (gsh (An f0 &&& An f1) (min f0 f1)))) q) (12 * f1 + (qi (q))))) (12 * f1 + (qo (q))))) (updN (updN (qp vals cn qi qo qs f0 f1 r0 (rowP T r0 12 (mgF T f0 f1 (gsh (An f0 &&& An f1) (min f0 f1)))) q) (12 * r0 + (qi (q))) ((qp vals cn qi qo qs f0 f1 r0 (rowP T r0 12 (mgF T f0 f1 (gsh (An f0 &&& An f1) (min f0 f1)))) q) (12 * f0 + (qi (q))) ||| (qp vals cn qi qo qs f0 f1 r0 (rowP T r0 12 (mgF T f0 f1 (gsh (An f0 &&& An f1) (min f0 f1)))) q) (12 * f1 + (qi (q))))) (12 * r0 + (qo (q))) ((updN (qp vals cn qi qo qs f0 f1 r0 (rowP T r0 12 (mgF T f0 f1 (gsh (An f0 &&& An f1) (min f0 f1)))) q) (12 * r0 + (qi (q))) ((qp vals cn qi qo qs f0 f1 r0 (rowP T r0 12 (mgF T f0 f1 (gsh (An f0 &&& An f1) (min f0 f1)))) q) (12 * f0 + (qi (q))) ||| (qp vals cn qi qo qs f0 f1 r0 (rowP T r0 12 (mgF T f0 f1 (gsh (An f0 &&& An f1) (min f0 f1)))) q) (12 * f1 + (qi (q))))) (12 * f0 + (qo (q))) ||| (updN (qp vals cn qi qo qs f0 f1 r0 (rowP T r0 12 (mgF T f0 f1 (gsh (An f0 &&& An f1) (min f0 f1)))) q) (12 * r0 + (qi (q))) ((qp vals cn qi qo qs f0 f1 r0 (rowP T r0 12 (mgF T f0 f1 (gsh (An f0 &&& An f1) (min f0 f1)))) q) (12 * f0 + (qi (q))) ||| (qp vals cn qi qo qs f0 f1 r0 (rowP T r0 12 (mgF T f0 f1 (gsh (An f0 &&& An f1) (min f0 f1)))) q) (12 * f1 + (qi (q))))) (12 * f1 + (qo (q))))) ++ (wPal g tp tv tr vals ris cn ++ ([])))))) rfl rfl rfl (fun _ => rfl) (fun _ => rfl) (fun _ => rfl) (fun _ => rfl) rfl rfl rfl rfl rfl (Nat.le_of_ble_eq_true rfl) dX3_writeMerge_128 ⟨by decide, by decide⟩ (fun _ h_16 => ?_)
            refine v_iinc C [(7, .int (iI (((q : Nat) : Int) + 1))), (0, .ref (sa)), (1, .ref (ta)), (2, .int (iI ((r0 : Nat) : Int))), (3, .int (iI ((f0 : Nat) : Int))), (4, .int (iI ((f1 : Nat) : Int))), (5, .int (iI ((qn : Nat) : Int)))] dX3_writeMerge_131 6 rfl (by decide) rfl ?_
            rw [show ((q : Nat) : Int) + 1 = ((q + 1 : Nat) : Int) from rfl]
            refine v_goto C 44 dX3_writeMerge_134 (by decide) ?_
            refine v_lv (lv' := [(0, .ref (sa)), (1, .ref (ta)), (2, .int (iI ((r0 : Nat) : Int))), (3, .int (iI ((f0 : Nat) : Int))), (4, .int (iI ((f1 : Nat) : Int))), (5, .int (iI ((qn : Nat) : Int))), (7, .int (iI ((q + 1 : Nat) : Int)))]) [1, 2, 3, 4, 5, 6, 0] rfl ?_
            refine v_ws (ws' := wScr g sa la qa ++ (wLog g la l1 l2 l3 l4 l5 l6 l7 l8 l9 deed first second item side picked qcnt An An cm ++ (wQuo g qa q1 q2 q3 qi qo qs qc ++ (wTab g ta tp tlo thi (qp vals cn qi qo qs f0 f1 r0 (rowP T r0 12 (mgF T f0 f1 (gsh (An f0 &&& An f1) (min f0 f1)))) (q + 1)) (qp vals cn qi qo qs f0 f1 r0 (rowP T r0 12 (mgF T f0 f1 (gsh (An f0 &&& An f1) (min f0 f1)))) (q + 1)) ++ (wPal g tp tv tr vals ris cn ++ ([])))))) (by show _ = wScr g sa la qa ++ (_ ++ (_ ++ (wTab g ta tp tlo thi (qstep vals cn qi qo qs f0 f1 r0 (qp vals cn qi qo qs f0 f1 r0 (rowP T r0 12 (mgF T f0 f1 (gsh (An f0 &&& An f1) (min f0 f1)))) q) q) (qstep vals cn qi qo qs f0 f1 r0 (qp vals cn qi qo qs f0 f1 r0 (rowP T r0 12 (mgF T f0 f1 (gsh (An f0 &&& An f1) (min f0 f1)))) q) q) ++ (_ ++ ([]))))); unfold qstep; rw [if_pos ⟨c_7, c_10, c_13⟩]) ?_
            exact ih44 (q + 1) (by omega) (by omega)
  ·
    refine v_aload_n C dX3_writeMerge_22 rfl 0 rfl ?_
    refine v_aload_n C dX3_writeMerge_23 rfl 1 rfl ?_
    refine v_iload_n C dX3_writeMerge_24 rfl 2 rfl ?_
    refine v_iload C dX3_writeMerge_25 7 rfl ?_
    refine v_iload_n C dX3_writeMerge_27 rfl 3 rfl ?_
    refine v_iload C dX3_writeMerge_28 4 rfl ?_
    refine v_iload C dX3_writeMerge_30 6 rfl ?_
    refine v_invVV C (As := [.ref (ta), .int (iI ((r0 : Nat) : Int)), .int (iI ((i : Nat) : Int)), .int (iI ((f0 : Nat) : Int)), .int (iI ((f1 : Nat) : Int)), .int (iI ((gsh (An f0 &&& An f1) (min f0 f1) : Nat) : Int))]) (q0 := 0) (ci := 3) (kX3_mergeItem l g (sa := sa) (la := la) (qa := qa) (ta := ta) (tp := tp) (tlo := tlo) (thi := thi) (T := rowP T r0 i (mgF T f0 f1 (gsh (An f0 &&& An f1) (min f0 f1)))) (r0 := r0) (i0 := i) (f0 := f0) (f1 := f1) (b0 := gsh (An f0 &&& An f1) (min f0 f1)) (by omega) (by omega) (by omega) (by omega) (by omega) (T128_row hT _ _ (mgF128 hT _ _ _))) (cwV 6 C.2.2.2.2.1 gX3_writeMerge_X3_mergeItem rfl rfl rfl (by decide +kernel) ⟨Nat.le_of_ble_eq_true rfl, Nat.le_of_ble_eq_true rfl⟩) [wScr g sa la qa, wLog g la l1 l2 l3 l4 l5 l6 l7 l8 l9 deed first second item side picked qcnt An An cm, wQuo g qa q1 q2 q3 qi qo qs qc, wTab g ta tp tlo thi (rowP T r0 i (mgF T f0 f1 (gsh (An f0 &&& An f1) (min f0 f1)))) (rowP T r0 i (mgF T f0 f1 (gsh (An f0 &&& An f1) (min f0 f1)))), wPal g tp tv tr vals ris cn] [0, 3] [1, 2, 4] [] (fun _ => [wScr g sa la qa, wLog g la l1 l2 l3 l4 l5 l6 l7 l8 l9 deed first second item side picked qcnt An An cm, wQuo g qa q1 q2 q3 qi qo qs qc, wTab g ta tp tlo thi (updN (rowP T r0 i (mgF T f0 f1 (gsh (An f0 &&& An f1) (min f0 f1)))) (12 * r0 + i) (mg ((rowP T r0 i (mgF T f0 f1 (gsh (An f0 &&& An f1) (min f0 f1)))) (12 * f0 + i)) ((rowP T r0 i (mgF T f0 f1 (gsh (An f0 &&& An f1) (min f0 f1)))) (12 * f1 + i)) ((rowP T r0 i (mgF T f0 f1 (gsh (An f0 &&& An f1) (min f0 f1)))) (12 * (gsh (An f0 &&& An f1) (min f0 f1)) + i)))) (updN (rowP T r0 i (mgF T f0 f1 (gsh (An f0 &&& An f1) (min f0 f1)))) (12 * r0 + i) (mg ((rowP T r0 i (mgF T f0 f1 (gsh (An f0 &&& An f1) (min f0 f1)))) (12 * f0 + i)) ((rowP T r0 i (mgF T f0 f1 (gsh (An f0 &&& An f1) (min f0 f1)))) (12 * f1 + i)) ((rowP T r0 i (mgF T f0 f1 (gsh (An f0 &&& An f1) (min f0 f1)))) (12 * (gsh (An f0 &&& An f1) (min f0 f1)) + i)))), wPal g tp tv tr vals ris cn]) (fun _ => wScr g sa la qa ++ (wLog g la l1 l2 l3 l4 l5 l6 l7 l8 l9 deed first second item side picked qcnt An An cm ++ (wQuo g qa q1 q2 q3 qi qo qs qc ++ (wTab g ta tp tlo thi (updN (rowP T r0 i (mgF T f0 f1 (gsh (An f0 &&& An f1) (min f0 f1)))) (12 * r0 + i) (mg ((rowP T r0 i (mgF T f0 f1 (gsh (An f0 &&& An f1) (min f0 f1)))) (12 * f0 + i)) ((rowP T r0 i (mgF T f0 f1 (gsh (An f0 &&& An f1) (min f0 f1)))) (12 * f1 + i)) ((rowP T r0 i (mgF T f0 f1 (gsh (An f0 &&& An f1) (min f0 f1)))) (12 * (gsh (An f0 &&& An f1) (min f0 f1)) + i)))) (updN (rowP T r0 i (mgF T f0 f1 (gsh (An f0 &&& An f1) (min f0 f1)))) (12 * r0 + i) (mg ((rowP T r0 i (mgF T f0 f1 (gsh (An f0 &&& An f1) (min f0 f1)))) (12 * f0 + i)) ((rowP T r0 i (mgF T f0 f1 (gsh (An f0 &&& An f1) (min f0 f1)))) (12 * f1 + i)) ((rowP T r0 i (mgF T f0 f1 (gsh (An f0 &&& An f1) (min f0 f1)))) (12 * (gsh (An f0 &&& An f1) (min f0 f1)) + i)))) ++ (wPal g tp tv tr vals ris cn ++ ([])))))) rfl rfl rfl (fun _ => rfl) (fun _ => rfl) (fun _ => rfl) (fun _ => rfl) rfl rfl rfl rfl rfl (Nat.le_of_ble_eq_true rfl) dX3_writeMerge_32 ⟨by decide, by decide⟩ (fun _ h_18 => ?_)
    refine v_iinc C [(7, .int (iI (((i : Nat) : Int) + 1))), (0, .ref (sa)), (1, .ref (ta)), (2, .int (iI ((r0 : Nat) : Int))), (3, .int (iI ((f0 : Nat) : Int))), (4, .int (iI ((f1 : Nat) : Int))), (5, .int (iI ((qn : Nat) : Int))), (6, .int (iI ((gsh (An f0 &&& An f1) (min f0 f1) : Nat) : Int)))] dX3_writeMerge_35 7 rfl (by decide) rfl ?_
    rw [show ((i : Nat) : Int) + 1 = ((i + 1 : Nat) : Int) from rfl]
    refine v_goto C 15 dX3_writeMerge_38 (by decide) ?_
    refine v_lv (lv' := [(0, .ref (sa)), (1, .ref (ta)), (2, .int (iI ((r0 : Nat) : Int))), (3, .int (iI ((f0 : Nat) : Int))), (4, .int (iI ((f1 : Nat) : Int))), (5, .int (iI ((qn : Nat) : Int))), (6, .int (iI ((gsh (An f0 &&& An f1) (min f0 f1) : Nat) : Int))), (7, .int (iI ((i + 1 : Nat) : Int)))]) [1, 2, 3, 4, 5, 6, 7, 0] rfl ?_
    refine v_ws (ws' := wScr g sa la qa ++ (wLog g la l1 l2 l3 l4 l5 l6 l7 l8 l9 deed first second item side picked qcnt An An cm ++ (wQuo g qa q1 q2 q3 qi qo qs qc ++ (wTab g ta tp tlo thi (rowP T r0 (i + 1) (mgF T f0 f1 (gsh (An f0 &&& An f1) (min f0 f1)))) (rowP T r0 (i + 1) (mgF T f0 f1 (gsh (An f0 &&& An f1) (min f0 f1)))) ++ (wPal g tp tv tr vals ris cn ++ ([])))))) (by rw [mg_step (by omega) hf0 hf1 hbb]) ?_
    exact ih15 (i + 1) (by omega) (by omega)
