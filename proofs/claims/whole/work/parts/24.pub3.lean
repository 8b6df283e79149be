def jI (z : Int) : Int64 := Int64.ofInt z
theorem jI_add (a b : Int) : jI a + jI b = jI (a + b) := (Int64.ofInt_add a b).symm
theorem iI_l {z : Int} (h : b31 z) : (iI z).toInt64 = jI z := by
  show Int64.ofInt (iI z).toInt = _
  rw [iI_toInt h.1 h.2]
  rfl
theorem lone31 {vals : Nat → Int} (hv : ∀ k, -1000 ≤ vals k ∧ vals k ≤ 999) (S cn : Nat) : b31 (lone S vals cn) := b31_of (lone_bd hv S cn).1 (lone_bd hv S cn).2
/-- the sum of the values of the n first items that hold one value, and no other side -/
def smF (T : Nat → Nat) (vals : Nat → Int) (cn j : Nat) : Nat → Int
  | 0 => 0
  | n + 1 => smF T vals cn j n + (if ¬ lone (T (12 * j + n)) vals cn = -1000 ∧ ((cnt (T (12 * j + n)) : Nat) : Int) = 1 then lone (T (12 * j + n)) vals cn else 0)
theorem smF_t {T : Nat → Nat} {vals : Nat → Int} {cn j n : Nat} (h1 : ¬ lone (T (12 * j + n)) vals cn = -1000) (h2 : ((cnt (T (12 * j + n)) : Nat) : Int) = 1) : smF T vals cn j n + lone (T (12 * j + n)) vals cn = smF T vals cn j (n + 1) := by
  show _ = smF T vals cn j n + (if _ then _ else _)
  rw [if_pos ⟨h1, h2⟩]
theorem smF_f {T : Nat → Nat} {vals : Nat → Int} {cn j n : Nat} (h : ¬ (¬ lone (T (12 * j + n)) vals cn = -1000 ∧ ((cnt (T (12 * j + n)) : Nat) : Int) = 1)) : smF T vals cn j n = smF T vals cn j (n + 1) := by
  show _ = smF T vals cn j n + (if _ then _ else _)
  rw [if_neg h]
  omega
/-- the same as the class has it: neither a conflict nor nothing alone -/
def smG (T : Nat → Nat) (vals : Nat → Int) (cn j : Nat) : Nat → Int
  | 0 => 0
  | n + 1 => smG T vals cn j n + (if ¬ 1 < cnt (T (12 * j + n)) ∧ ¬ T (12 * j + n) = 1 then lone (T (12 * j + n)) vals cn else 0)
theorem smG_t {T : Nat → Nat} {vals : Nat → Int} {cn j n : Nat} (h1 : decide (1 < cnt (T (12 * j + n))) = false) (h2 : decide (T (12 * j + n) = 1) = false) : smG T vals cn j n + lone (T (12 * j + n)) vals cn = smG T vals cn j (n + 1) := by
  show _ = smG T vals cn j n + (if _ then _ else _)
  rw [if_pos ⟨of_decide_eq_false h1, of_decide_eq_false h2⟩]
theorem smG_a {T : Nat → Nat} {vals : Nat → Int} {cn j n : Nat} (h : decide (1 < cnt (T (12 * j + n))) = true) : smG T vals cn j n = smG T vals cn j (n + 1) := by
  show _ = smG T vals cn j n + (if _ then _ else _)
  have a : ¬ (¬ 1 < cnt (T (12 * j + n)) ∧ ¬ T (12 * j + n) = 1) := fun q => q.1 (of_decide_eq_true h)
  rw [if_neg a]
  exact (Int.add_zero _).symm
theorem smG_b {T : Nat → Nat} {vals : Nat → Int} {cn j n : Nat} (h : decide (T (12 * j + n) = 1) = true) : smG T vals cn j n = smG T vals cn j (n + 1) := by
  show _ = smG T vals cn j n + (if _ then _ else _)
  have a : ¬ (¬ 1 < cnt (T (12 * j + n)) ∧ ¬ T (12 * j + n) = 1) := fun q => q.2 (of_decide_eq_true h)
  rw [if_neg a]
  exact (Int.add_zero _).symm
/-- the share of a of b, as floats -/
def shr (a b : Nat) : UInt32 := FP.fdiv (FP.i2f (iI (a : Int))) (FP.i2f (iI (b : Int)))
theorem shr_ok : ∀ a : Fin 13, ∀ b : Fin 12, vf_n32 (shr a.val (b.val + 1)) := by
  unfold vf_n32
  decide +kernel
theorem shr_n {a b : Nat} (ha : a ≤ 12) (h0 : 0 < b) (hb : b ≤ 12) : vf_n32 (shr a b) := by
  have h := shr_ok ⟨a, by omega⟩ ⟨b - 1, by omega⟩
  rw [show b - 1 + 1 = b by omega] at h
  exact h
theorem inX5_sum_5 : ∀ w ∈ u_ws RX5 TX5 11, w ∈ wsX5_sum := by decide +kernel
theorem lkX5_sum_77 : Cond.fieldLink RX5 77 "MergeAtelier" "itemCount" "I" ∈ wsX5_sum := by decide +kernel
theorem lkX5_sum_59 : Cond.fieldLink RX5 59 "MergeAtelier" "kept" "LMergeAtelier$Table;" ∈ wsX5_sum := by decide +kernel
set_option maxHeartbeats 4000000 in
set_option maxRecDepth 100000 in
theorem kX5_sum (l : Launch) (g : vG) (sx : Nat → Nat) (hst : l.stackTraces = false) {ma m1 m2 m3 la tp qa sa ta ua : Nat} {kinds tgs : Nat → Int} {hds : Nat → Nat} {ni bc : Nat} {l1 l2 l3 l4 l5 l6 l7 l8 l9 : Nat} {deed item side picked qcnt An : Nat → Nat} {first second : Nat → Int} {cm : Nat} {tv tr : Nat} {vals : Nat → Int} {ris : Nat → Nat} {cn : Nat} {tlo thi : Nat} {T : Nat → Nat} {x : Int} (hx : b31 x) (hni : ni ≤ 12) (hcm : cm ≤ 100) (hcn : cn ≤ 100) (hT : T128 T) (hv : ∀ k, -1000 ≤ vals k ∧ vals k ≤ 999) : xL l g sx yX5_sum wsX5_sum ({ frames := 7, cells := 1, slots := 6, locals := 111 }) [.ref (ma), .int (iI (x))] (wMA g ma m1 m2 m3 la tp qa sa ta ua kinds ni hds bc tgs ++ (wLog g la l1 l2 l3 l4 l5 l6 l7 l8 l9 deed first second item side picked qcnt An An cm ++ (wPal g tp tv tr vals ris cn ++ (wTab g ta tp tlo thi T T ++ ([]))))) (fun _ : Unit => wMA g ma m1 m2 m3 la tp qa sa ta ua kinds ni hds bc tgs ++ (wLog g la l1 l2 l3 l4 l5 l6 l7 l8 l9 deed first second item side picked qcnt An An cm ++ (wPal g tp tv tr vals ris cn ++ (wTab g ta tp tlo thi T T ++ ([]))))) (fun v _ => (if ¬ (0 ≤ x ∧ x < (cm : Int)) then 1 else 0 : Nat) = 0 ∧ v = jI (smG T vals cn x.toNat ni)) (fun E => xE [eIO] (if ¬ (0 ≤ x ∧ x < (cm : Int)) then 1 else 0 : Nat) E) 1 6 := by
  refine x_of (Qc := fun A => va_Ql (fun v _ => (if ¬ (0 ≤ x ∧ x < (cm : Int)) then 1 else 0 : Nat) = 0 ∧ v = jI (smG T vals cn x.toNat ni)) (mB g (fun _ : Unit => wMA g ma m1 m2 m3 la tp qa sa ta ua kinds ni hds bc tgs ++ (wLog g la l1 l2 l3 l4 l5 l6 l7 l8 l9 deed first second item side picked qcnt An An cm ++ (wPal g tp tv tr vals ris cn ++ (wTab g ta tp tlo thi T T ++ ([]))))) A) A) (cc := cX5_sum) (maxL := 5) (ret := (some .long)) (own := RX5) hst (by decide) rfl rfl (Nat.le_of_ble_eq_true rfl) ?_
  intro p e s m args below meth c A C X hr hl
  have hx1 := hx.1
  have hx2 := hx.2
  refine v_aload_n C dX5_sum_0 rfl 0 rfl ?_
  refine v_iload_n C dX5_sum_1 rfl 1 rfl ?_
  by_cases q_1 : 0 ≤ x ∧ x < ((cm : Nat) : Int)
  rotate_left
  ·
    refine v_xinvV C X (As := [.int (iI (x))]) (q0 := 0) (ci := 5) (kX5_requireCommit_bad l g sx hst (ma := ma) (m1 := m1) (m2 := m2) (m3 := m3) (la := la) (tp := tp) (qa := qa) (sa := sa) (ta := ta) (ua := ua) (kinds := kinds) (ni := ni) (hds := hds) (bc := bc) (tgs := tgs) (l1 := l1) (l2 := l2) (l3 := l3) (l4 := l4) (l5 := l5) (l6 := l6) (l7 := l7) (l8 := l8) (l9 := l9) (deed := deed) (item := item) (side := side) (picked := picked) (qcnt := qcnt) (An := An) (first := first) (second := second) (cm := cm) (x := x) ⟨by omega, by omega⟩ (by omega) (by omega)) (cwV 1 C.2.2.2.2.1 gX5_sum_X5_requireCommit rfl rfl rfl (by decide +kernel) ⟨Nat.le_of_ble_eq_true rfl, Nat.le_of_ble_eq_true rfl⟩) [wMA g ma m1 m2 m3 la tp qa sa ta ua kinds ni hds bc tgs, wLog g la l1 l2 l3 l4 l5 l6 l7 l8 l9 deed first second item side picked qcnt An An cm, wPal g tp tv tr vals ris cn, wTab g ta tp tlo thi T T] [0, 1] [2, 3] [] (fun _ => [wMA g ma m1 m2 m3 la tp qa sa ta ua kinds ni hds bc tgs, wLog g la l1 l2 l3 l4 l5 l6 l7 l8 l9 deed first second item side picked qcnt An An cm, wPal g tp tv tr vals ris cn, wTab g ta tp tlo thi T T]) (fun _ => wMA g ma m1 m2 m3 la tp qa sa ta ua kinds ni hds bc tgs ++ (wLog g la l1 l2 l3 l4 l5 l6 l7 l8 l9 deed first second item side picked qcnt An An cm ++ (wPal g tp tv tr vals ris cn ++ (wTab g ta tp tlo thi T T ++ ([]))))) rfl rfl rfl (fun _ => rfl) (fun _ => rfl) (fun _ => rfl) (fun _ => rfl) rfl rfl rfl rfl rfl (Nat.le_of_ble_eq_true rfl) hl rfl (fun E h => h ▸ (xE1 (by (try simp only [Int.toNat_natCast]); rw [if_pos (by omega)]) rfl)) dX5_sum_2 ⟨by decide, by decide⟩ ⟨by decide, by decide⟩ (fun _ hff => hff.elim)
  obtain ⟨x0, rfl⟩ : ∃ i : Nat, x = (i : Int) := ⟨(x).toNat, by omega⟩
  have hx0 : x0 < cm := by omega
  refine v_invVV C (As := [.int (iI ((x0 : Nat) : Int))]) (q0 := 0) (ci := 5) (kX5_requireCommit_ok l g (ma := ma) (m1 := m1) (m2 := m2) (m3 := m3) (la := la) (tp := tp) (qa := qa) (sa := sa) (ta := ta) (ua := ua) (kinds := kinds) (ni := ni) (hds := hds) (bc := bc) (tgs := tgs) (l1 := l1) (l2 := l2) (l3 := l3) (l4 := l4) (l5 := l5) (l6 := l6) (l7 := l7) (l8 := l8) (l9 := l9) (deed := deed) (item := item) (side := side) (picked := picked) (qcnt := qcnt) (An := An) (first := first) (second := second) (cm := cm) (i0 := x0) (by omega) (by omega)) (cwV 1 C.2.2.2.2.1 gX5_sum_X5_requireCommit rfl rfl rfl (by decide +kernel) ⟨Nat.le_of_ble_eq_true rfl, Nat.le_of_ble_eq_true rfl⟩) [wMA g ma m1 m2 m3 la tp qa sa ta ua kinds ni hds bc tgs, wLog g la l1 l2 l3 l4 l5 l6 l7 l8 l9 deed first second item side picked qcnt An An cm, wPal g tp tv tr vals ris cn, wTab g ta tp tlo thi T T] [0, 1] [2, 3] [] (fun _ => [wMA g ma m1 m2 m3 la tp qa sa ta ua kinds ni hds bc tgs, wLog g la l1 l2 l3 l4 l5 l6 l7 l8 l9 deed first second item side picked qcnt An An cm, wPal g tp tv tr vals ris cn, wTab g ta tp tlo thi T T]) (fun _ => wMA g ma m1 m2 m3 la tp qa sa ta ua kinds ni hds bc tgs ++ (wLog g la l1 l2 l3 l4 l5 l6 l7 l8 l9 deed first second item side picked qcnt An An cm ++ (wPal g tp tv tr vals ris cn ++ (wTab g ta tp tlo thi T T ++ ([]))))) rfl rfl rfl (fun _ => rfl) (fun _ => rfl) (fun _ => rfl) (fun _ => rfl) rfl rfl rfl rfl rfl (Nat.le_of_ble_eq_true rfl) dX5_sum_2 ⟨by decide, by decide⟩ (fun _ h_4 => ?_)
  refine v_lconst C (v := lN 0) dX5_sum_5 rfl ?_
  refine v_lstore_n C [(2, .long (lN (0))), (0, .ref (ma)), (1, .int (iI ((x0 : Nat) : Int)))] dX5_sum_6 rfl (by decide) rfl ?_
  refine v_iconst C (z := 0) dX5_sum_7 ?_
  refine v_istore C [(4, .int (iI (0))), (2, .long (lN (0))), (0, .ref (ma)), (1, .int (iI ((x0 : Nat) : Int)))] dX5_sum_8 (by decide) rfl ?_
  refine v_lv (lv' := [(0, .ref (ma)), (1, .int (iI ((x0 : Nat) : Int))), (2, .long ((jI (smG T vals cn x0 0)))), (4, .int (iI ((0 : Nat) : Int)))]) [2, 3, 1, 0] rfl ?_
  refine v_lp1 (X := Nat) (fun i => wMA g ma m1 m2 m3 la tp qa sa ta ua kinds ni hds bc tgs ++ (wLog g la l1 l2 l3 l4 l5 l6 l7 l8 l9 deed first second item side picked qcnt An An cm ++ (wPal g tp tv tr vals ris cn ++ (wTab g ta tp tlo thi T T ++ ([]))))) (fun i => [(0, .ref (ma)), (1, .int (iI ((x0 : Nat) : Int))), (2, .long ((jI (smG T vals cn x0 i)))), (4, .int (iI ((i : Nat) : Int)))]) (fun i => ni - i) (fun i => i ≤ ni) ?_ (0) (Nat.zero_le _)
  intro i hJ10 ih10
  try dsimp only at hJ10 ⊢
  refine v_iload C dX5_sum_10 3 rfl ?_
  refine v_aload_n C dX5_sum_12 rfl 0 rfl ?_
  refine v_get C 0 (kf := 1) rfl rfl (by decide) inX5_sum_5 lkX5_sum_77 rfl rfl dX5_sum_13 ?_
  refine v_icmp_ge C 65 dX5_sum_16 (by decide) ⟨by omega, by omega⟩ ⟨by omega, by omega⟩ (fun c_6 => ?_) (fun c_6 => ?_)
  ·
    obtain rfl : ni = i := by omega
    refine v_lload_n C dX5_sum_65 rfl 2 rfl ?_
    exact v_xr (v_lret C hr hl () (by decide) (by decide) rfl ⟨(by (try simp only [Int.toNat_natCast]); rw [if_neg (by omega)]), rfl⟩ dX5_sum_66)
  ·
    refine v_aload_n C dX5_sum_19 rfl 0 rfl ?_
    refine v_get C 0 (kf := 9) rfl rfl (by decide) inX5_sum_5 lkX5_sum_59 rfl rfl dX5_sum_20 ?_
    refine v_iload_n C dX5_sum_23 rfl 1 rfl ?_
    refine v_iload C dX5_sum_24 3 rfl ?_
    refine v_invVI C (As := [.int (iI ((x0 : Nat) : Int)), .int (iI ((i : Nat) : Int))]) (q0 := 0) (ci := 4) (kX4_holdsConflict l g (ta := ta) (tp := tp) (tlo := tlo) (thi := thi) (T := T) (r0 := x0) (i0 := i) (by omega) (by omega)) (cwV 2 C.2.2.2.2.1 gX5_sum_X4_holdsConflict rfl rfl rfl (by decide +kernel) ⟨Nat.le_of_ble_eq_true rfl, Nat.le_of_ble_eq_true rfl⟩) [wMA g ma m1 m2 m3 la tp qa sa ta ua kinds ni hds bc tgs, wLog g la l1 l2 l3 l4 l5 l6 l7 l8 l9 deed first second item side picked qcnt An An cm, wPal g tp tv tr vals ris cn, wTab g ta tp tlo thi T T] [3] [0, 1, 2] [] (fun _ => [wMA g ma m1 m2 m3 la tp qa sa ta ua kinds ni hds bc tgs, wLog g la l1 l2 l3 l4 l5 l6 l7 l8 l9 deed first second item side picked qcnt An An cm, wPal g tp tv tr vals ris cn, wTab g ta tp tlo thi T T]) (fun _ => wMA g ma m1 m2 m3 la tp qa sa ta ua kinds ni hds bc tgs ++ (wLog g la l1 l2 l3 l4 l5 l6 l7 l8 l9 deed first second item side picked qcnt An An cm ++ (wPal g tp tv tr vals ris cn ++ (wTab g ta tp tlo thi T T ++ ([]))))) rfl rfl rfl (fun _ => rfl) (fun _ => rfl) (fun _ => rfl) (fun _ => rfl) rfl rfl rfl rfl rfl (Nat.le_of_ble_eq_true rfl) dX5_sum_26 ⟨by decide, by decide⟩ (fun r_8 _ h_7 => ?_)
    subst h_7
    refine v_ifz_ne C 59 dX5_sum_29 (by decide) (fun c_9 => ?_) (fun c_9 => ?_)
    ·
      rw [show jI (smG T vals cn x0 i) = jI (smG T vals cn x0 (i + 1)) from congrArg jI (smG_a c_9)]
      refine v_iinc C [(4, .int (iI (((i : Nat) : Int) + 1))), (0, .ref (ma)), (1, .int (iI ((x0 : Nat) : Int))), (2, .long ((jI (smG T vals cn x0 (i + 1)))))] dX5_sum_59 3 rfl (by decide) rfl ?_
      rw [show ((i : Nat) : Int) + 1 = ((i + 1 : Nat) : Int) from rfl]
      refine v_goto C 10 dX5_sum_62 (by decide) ?_
      refine v_lv (lv' := [(0, .ref (ma)), (1, .int (iI ((x0 : Nat) : Int))), (2, .long ((jI (smG T vals cn x0 (i + 1))))), (4, .int (iI ((i + 1 : Nat) : Int)))]) [1, 2, 3, 0] rfl ?_
      exact ih10 (i + 1) (by omega) (by omega)
    ·
      refine v_aload_n C dX5_sum_32 rfl 0 rfl ?_
      refine v_get C 0 (kf := 9) rfl rfl (by decide) inX5_sum_5 lkX5_sum_59 rfl rfl dX5_sum_33 ?_
      refine v_iload_n C dX5_sum_36 rfl 1 rfl ?_
      refine v_iload C dX5_sum_37 3 rfl ?_
      refine v_invVI C (As := [.int (iI ((x0 : Nat) : Int)), .int (iI ((i : Nat) : Int))]) (q0 := 0) (ci := 4) (kX4_holdsNothingElse l g (ta := ta) (tp := tp) (tlo := tlo) (thi := thi) (T := T) (r0 := x0) (i0 := i) (by omega) (by omega) hT) (cwV 2 C.2.2.2.2.1 gX5_sum_X4_holdsNothingElse rfl rfl rfl (by decide +kernel) ⟨Nat.le_of_ble_eq_true rfl, Nat.le_of_ble_eq_true rfl⟩) [wMA g ma m1 m2 m3 la tp qa sa ta ua kinds ni hds bc tgs, wLog g la l1 l2 l3 l4 l5 l6 l7 l8 l9 deed first second item side picked qcnt An An cm, wPal g tp tv tr vals ris cn, wTab g ta tp tlo thi T T] [3] [0, 1, 2] [] (fun _ => [wMA g ma m1 m2 m3 la tp qa sa ta ua kinds ni hds bc tgs, wLog g la l1 l2 l3 l4 l5 l6 l7 l8 l9 deed first second item side picked qcnt An An cm, wPal g tp tv tr vals ris cn, wTab g ta tp tlo thi T T]) (fun _ => wMA g ma m1 m2 m3 la tp qa sa ta ua kinds ni hds bc tgs ++ (wLog g la l1 l2 l3 l4 l5 l6 l7 l8 l9 deed first second item side picked qcnt An An cm ++ (wPal g tp tv tr vals ris cn ++ (wTab g ta tp tlo thi T T ++ ([]))))) rfl rfl rfl (fun _ => rfl) (fun _ => rfl) (fun _ => rfl) (fun _ => rfl) rfl rfl rfl rfl rfl (Nat.le_of_ble_eq_true rfl) dX5_sum_39 ⟨by decide, by decide⟩ (fun r_11 _ h_10 => ?_)
      subst h_10
      refine v_ifz_ne C 59 dX5_sum_42 (by decide) (fun c_12 => ?_) (fun c_12 => ?_)
      ·
        rw [show jI (smG T vals cn x0 i) = jI (smG T vals cn x0 (i + 1)) from congrArg jI (smG_b c_12)]
        refine v_iinc C [(4, .int (iI (((i : Nat) : Int) + 1))), (0, .ref (ma)), (1, .int (iI ((x0 : Nat) : Int))), (2, .long ((jI (smG T vals cn x0 (i + 1)))))] dX5_sum_59 3 rfl (by decide) rfl ?_
        rw [show ((i : Nat) : Int) + 1 = ((i + 1 : Nat) : Int) from rfl]
        refine v_goto C 10 dX5_sum_62 (by decide) ?_
        refine v_lv (lv' := [(0, .ref (ma)), (1, .int (iI ((x0 : Nat) : Int))), (2, .long ((jI (smG T vals cn x0 (i + 1))))), (4, .int (iI ((i + 1 : Nat) : Int)))]) [1, 2, 3, 0] rfl ?_
        exact ih10 (i + 1) (by omega) (by omega)
      ·
        refine v_lload_n C dX5_sum_45 rfl 2 rfl ?_
        refine v_aload_n C dX5_sum_46 rfl 0 rfl ?_
        refine v_get C 0 (kf := 9) rfl rfl (by decide) inX5_sum_5 lkX5_sum_59 rfl rfl dX5_sum_47 ?_
        refine v_iload_n C dX5_sum_50 rfl 1 rfl ?_
        refine v_iload C dX5_sum_51 3 rfl ?_
        refine v_invVI C (As := [.int (iI ((x0 : Nat) : Int)), .int (iI ((i : Nat) : Int))]) (q0 := 0) (ci := 4) (kX4_loneValue l g (ta := ta) (tp := tp) (tlo := tlo) (thi := thi) (T := T) (tv := tv) (tr := tr) (vals := vals) (ris := ris) (cn := cn) (r0 := x0) (i0 := i) (by omega) (by omega) (by omega)) (cwV 2 C.2.2.2.2.1 gX5_sum_X4_loneValue rfl rfl rfl (by decide +kernel) ⟨Nat.le_of_ble_eq_true rfl, Nat.le_of_ble_eq_true rfl⟩) [wMA g ma m1 m2 m3 la tp qa sa ta ua kinds ni hds bc tgs, wLog g la l1 l2 l3 l4 l5 l6 l7 l8 l9 deed first second item side picked qcnt An An cm, wPal g tp tv tr vals ris cn, wTab g ta tp tlo thi T T] [3, 2] [0, 1] [.long ((jI (smG T vals cn x0 i)))] (fun _ => [wMA g ma m1 m2 m3 la tp qa sa ta ua kinds ni hds bc tgs, wLog g la l1 l2 l3 l4 l5 l6 l7 l8 l9 deed first second item side picked qcnt An An cm, wPal g tp tv tr vals ris cn, wTab g ta tp tlo thi T T]) (fun _ => wMA g ma m1 m2 m3 la tp qa sa ta ua kinds ni hds bc tgs ++ (wLog g la l1 l2 l3 l4 l5 l6 l7 l8 l9 deed first second item side picked qcnt An An cm ++ (wPal g tp tv tr vals ris cn ++ (wTab g ta tp tlo thi T T ++ ([]))))) rfl rfl rfl (fun _ => rfl) (fun _ => rfl) (fun _ => rfl) (fun _ => rfl) rfl rfl rfl rfl rfl (Nat.le_of_ble_eq_true rfl) dX5_sum_53 ⟨by decide, by decide⟩ (fun r_14 _ h_13 => ?_)
        subst h_13
        refine v_i2l C dX5_sum_56 (iI_l (lone31 hv _ _)) ?_
        refine v_ladd C dX5_sum_57 ?_
        rw [jI_add, smG_t c_9 c_12]
        refine v_lstore_n C [(2, .long ((jI (smG T vals cn x0 (i + 1))))), (0, .ref (ma)), (1, .int (iI ((x0 : Nat) : Int))), (4, .int (iI ((i : Nat) : Int)))] dX5_sum_58 rfl (by decide) rfl ?_
        refine v_iinc C [(4, .int (iI (((i : Nat) : Int) + 1))), (2, .long ((jI (smG T vals cn x0 (i + 1))))), (0, .ref (ma)), (1, .int (iI ((x0 : Nat) : Int)))] dX5_sum_59 3 rfl (by decide) rfl ?_
        rw [show ((i : Nat) : Int) + 1 = ((i + 1 : Nat) : Int) from rfl]
        refine v_goto C 10 dX5_sum_62 (by decide) ?_
        refine v_lv (lv' := [(0, .ref (ma)), (1, .int (iI ((x0 : Nat) : Int))), (2, .long ((jI (smG T vals cn x0 (i + 1))))), (4, .int (iI ((i + 1 : Nat) : Int)))]) [2, 3, 1, 0] rfl ?_
        exact ih10 (i + 1) (by omega) (by omega)
theorem inX5_conflictShare_5 : ∀ w ∈ u_ws RX5 TX5 11, w ∈ wsX5_conflictShare := by decide +kernel
theorem lkX5_conflictShare_77 : Cond.fieldLink RX5 77 "MergeAtelier" "itemCount" "I" ∈ wsX5_conflictShare := by decide +kernel
theorem lkX5_conflictShare_59 : Cond.fieldLink RX5 59 "MergeAtelier" "kept" "LMergeAtelier$Table;" ∈ wsX5_conflictShare := by decide +kernel
theorem xaX5_conflictShare_135 : Cond.classLink RX5 135 eNE ∈ wsX5_conflictShare := by decide +kernel
theorem xbX5_conflictShare_135 : Cond.initialized eNE ∈ wsX5_conflictShare := by decide +kernel
theorem xcX5_conflictShare_135 : ∀ w ∈ (vx_atS RX5 139 eNE exN).filter goodWord, w ∈ wsX5_conflictShare := by decide +kernel
set_option maxHeartbeats 4000000 in
set_option maxRecDepth 100000 in
theorem kX5_conflictShare (l : Launch) (g : vG) (sx : Nat → Nat) (hst : l.stackTraces = false) {ma m1 m2 m3 la tp qa sa ta ua : Nat} {kinds tgs : Nat → Int} {hds : Nat → Nat} {ni bc : Nat} {l1 l2 l3 l4 l5 l6 l7 l8 l9 : Nat} {deed item side picked qcnt An : Nat → Nat} {first second : Nat → Int} {cm : Nat} {tlo thi : Nat} {T : Nat → Nat} {x : Int} (hx : b31 x) (hni : ni ≤ 12) (hcm : cm ≤ 100) : xF l g sx yX5_conflictShare wsX5_conflictShare ({ frames := 7, cells := 1, slots := 6, locals := 111 }) [.ref (ma), .int (iI (x))] (wMA g ma m1 m2 m3 la tp qa sa ta ua kinds ni hds bc tgs ++ (wLog g la l1 l2 l3 l4 l5 l6 l7 l8 l9 deed first second item side picked qcnt An An cm ++ (wTab g ta tp tlo thi T T ++ ([])))) (fun _ : Unit => wMA g ma m1 m2 m3 la tp qa sa ta ua kinds ni hds bc tgs ++ (wLog g la l1 l2 l3 l4 l5 l6 l7 l8 l9 deed first second item side picked qcnt An An cm ++ (wTab g ta tp tlo thi T T ++ ([])))) (fun v _ => (if ¬ (0 ≤ x ∧ x < (cm : Int)) then 1 else if ni = 0 then 2 else 0 : Nat) = 0 ∧ v = shr (fb_ct (fun i => decide (1 < cnt (T (12 * x.toNat + i)))) 12) ni) (fun E => xE [eIO, eNE] (if ¬ (0 ≤ x ∧ x < (cm : Int)) then 1 else if ni = 0 then 2 else 0 : Nat) E) 1 6 := by
  refine x_of (Qc := fun A => va_Qf (fun v _ => (if ¬ (0 ≤ x ∧ x < (cm : Int)) then 1 else if ni = 0 then 2 else 0 : Nat) = 0 ∧ v = shr (fb_ct (fun i => decide (1 < cnt (T (12 * x.toNat + i)))) 12) ni) (mB g (fun _ : Unit => wMA g ma m1 m2 m3 la tp qa sa ta ua kinds ni hds bc tgs ++ (wLog g la l1 l2 l3 l4 l5 l6 l7 l8 l9 deed first second item side picked qcnt An An cm ++ (wTab g ta tp tlo thi T T ++ ([])))) A) A) (cc := cX5_conflictShare) (maxL := 2) (ret := (some .float)) (own := RX5) hst (by decide) rfl rfl (Nat.le_of_ble_eq_true rfl) ?_
  intro p e s m args below meth c A C X hr hl
  have hx1 := hx.1
  have hx2 := hx.2
  refine v_aload_n C dX5_conflictShare_0 rfl 0 rfl ?_
  refine v_iload_n C dX5_conflictShare_1 rfl 1 rfl ?_
  by_cases q_1 : 0 ≤ x ∧ x < ((cm : Nat) : Int)
  rotate_left
  ·
    refine v_xinvV C X (As := [.int (iI (x))]) (q0 := 0) (ci := 5) (kX5_requireCommit_bad l g sx hst (ma := ma) (m1 := m1) (m2 := m2) (m3 := m3) (la := la) (tp := tp) (qa := qa) (sa := sa) (ta := ta) (ua := ua) (kinds := kinds) (ni := ni) (hds := hds) (bc := bc) (tgs := tgs) (l1 := l1) (l2 := l2) (l3 := l3) (l4 := l4) (l5 := l5) (l6 := l6) (l7 := l7) (l8 := l8) (l9 := l9) (deed := deed) (item := item) (side := side) (picked := picked) (qcnt := qcnt) (An := An) (first := first) (second := second) (cm := cm) (x := x) ⟨by omega, by omega⟩ (by omega) (by omega)) (cwV 1 C.2.2.2.2.1 gX5_conflictShare_X5_requireCommit rfl rfl rfl (by decide +kernel) ⟨Nat.le_of_ble_eq_true rfl, Nat.le_of_ble_eq_true rfl⟩) [wMA g ma m1 m2 m3 la tp qa sa ta ua kinds ni hds bc tgs, wLog g la l1 l2 l3 l4 l5 l6 l7 l8 l9 deed first second item side picked qcnt An An cm, wTab g ta tp tlo thi T T] [0, 1] [2] [] (fun _ => [wMA g ma m1 m2 m3 la tp qa sa ta ua kinds ni hds bc tgs, wLog g la l1 l2 l3 l4 l5 l6 l7 l8 l9 deed first second item side picked qcnt An An cm, wTab g ta tp tlo thi T T]) (fun _ => wMA g ma m1 m2 m3 la tp qa sa ta ua kinds ni hds bc tgs ++ (wLog g la l1 l2 l3 l4 l5 l6 l7 l8 l9 deed first second item side picked qcnt An An cm ++ (wTab g ta tp tlo thi T T ++ ([])))) rfl rfl rfl (fun _ => rfl) (fun _ => rfl) (fun _ => rfl) (fun _ => rfl) rfl rfl rfl rfl rfl (Nat.le_of_ble_eq_true rfl) hl rfl (fun E h => h ▸ (xE1 (by (try simp only [Int.toNat_natCast]); rw [if_pos (by omega)]) rfl)) dX5_conflictShare_2 ⟨by decide, by decide⟩ ⟨by decide, by decide⟩ (fun _ hff => hff.elim)
  obtain ⟨x0, rfl⟩ : ∃ i : Nat, x = (i : Int) := ⟨(x).toNat, by omega⟩
  have hx0 : x0 < cm := by omega
  refine v_invVV C (As := [.int (iI ((x0 : Nat) : Int))]) (q0 := 0) (ci := 5) (kX5_requireCommit_ok l g (ma := ma) (m1 := m1) (m2 := m2) (m3 := m3) (la := la) (tp := tp) (qa := qa) (sa := sa) (ta := ta) (ua := ua) (kinds := kinds) (ni := ni) (hds := hds) (bc := bc) (tgs := tgs) (l1 := l1) (l2 := l2) (l3 := l3) (l4 := l4) (l5 := l5) (l6 := l6) (l7 := l7) (l8 := l8) (l9 := l9) (deed := deed) (item := item) (side := side) (picked := picked) (qcnt := qcnt) (An := An) (first := first) (second := second) (cm := cm) (i0 := x0) (by omega) (by omega)) (cwV 1 C.2.2.2.2.1 gX5_conflictShare_X5_requireCommit rfl rfl rfl (by decide +kernel) ⟨Nat.le_of_ble_eq_true rfl, Nat.le_of_ble_eq_true rfl⟩) [wMA g ma m1 m2 m3 la tp qa sa ta ua kinds ni hds bc tgs, wLog g la l1 l2 l3 l4 l5 l6 l7 l8 l9 deed first second item side picked qcnt An An cm, wTab g ta tp tlo thi T T] [0, 1] [2] [] (fun _ => [wMA g ma m1 m2 m3 la tp qa sa ta ua kinds ni hds bc tgs, wLog g la l1 l2 l3 l4 l5 l6 l7 l8 l9 deed first second item side picked qcnt An An cm, wTab g ta tp tlo thi T T]) (fun _ => wMA g ma m1 m2 m3 la tp qa sa ta ua kinds ni hds bc tgs ++ (wLog g la l1 l2 l3 l4 l5 l6 l7 l8 l9 deed first second item side picked qcnt An An cm ++ (wTab g ta tp tlo thi T T ++ ([])))) rfl rfl rfl (fun _ => rfl) (fun _ => rfl) (fun _ => rfl) (fun _ => rfl) rfl rfl rfl rfl rfl (Nat.le_of_ble_eq_true rfl) dX5_conflictShare_2 ⟨by decide, by decide⟩ (fun _ h_4 => ?_)
  refine v_aload_n C dX5_conflictShare_5 rfl 0 rfl ?_
  refine v_get C 0 (kf := 1) rfl rfl (by decide) inX5_conflictShare_5 lkX5_conflictShare_77 rfl rfl dX5_conflictShare_6 ?_
  refine v_if_ne C 22 dX5_conflictShare_9 (by decide) ⟨by omega, by omega⟩ (fun c_6 => ?_) (fun c_6 => ?_)
  ·
    refine v_aload_n C dX5_conflictShare_22 rfl 0 rfl ?_
    refine v_get C 0 (kf := 9) rfl rfl (by decide) inX5_conflictShare_5 lkX5_conflictShare_59 rfl rfl dX5_conflictShare_23 ?_
    refine v_iload_n C dX5_conflictShare_26 rfl 1 rfl ?_
    refine v_invVI C (As := [.int (iI ((x0 : Nat) : Int))]) (q0 := 0) (ci := 4) (kX4_conflictCount l g (ta := ta) (tp := tp) (tlo := tlo) (thi := thi) (T := T) (r0 := x0) (by omega)) (cwV 1 C.2.2.2.2.1 gX5_conflictShare_X4_conflictCount rfl rfl rfl (by decide +kernel) ⟨Nat.le_of_ble_eq_true rfl, Nat.le_of_ble_eq_true rfl⟩) [wMA g ma m1 m2 m3 la tp qa sa ta ua kinds ni hds bc tgs, wLog g la l1 l2 l3 l4 l5 l6 l7 l8 l9 deed first second item side picked qcnt An An cm, wTab g ta tp tlo thi T T] [2] [0, 1] [] (fun _ => [wMA g ma m1 m2 m3 la tp qa sa ta ua kinds ni hds bc tgs, wLog g la l1 l2 l3 l4 l5 l6 l7 l8 l9 deed first second item side picked qcnt An An cm, wTab g ta tp tlo thi T T]) (fun _ => wMA g ma m1 m2 m3 la tp qa sa ta ua kinds ni hds bc tgs ++ (wLog g la l1 l2 l3 l4 l5 l6 l7 l8 l9 deed first second item side picked qcnt An An cm ++ (wTab g ta tp tlo thi T T ++ ([])))) rfl rfl rfl (fun _ => rfl) (fun _ => rfl) (fun _ => rfl) (fun _ => rfl) rfl rfl rfl rfl rfl (Nat.le_of_ble_eq_true rfl) dX5_conflictShare_27 ⟨by decide, by decide⟩ (fun r_8 _ h_7 => ?_)
    subst h_7
    refine v_i2f C dX5_conflictShare_30 ?_
    refine v_aload_n C dX5_conflictShare_31 rfl 0 rfl ?_
    refine v_get C 0 (kf := 1) rfl rfl (by decide) inX5_conflictShare_5 lkX5_conflictShare_77 rfl rfl dX5_conflictShare_32 ?_
    refine v_i2f C dX5_conflictShare_35 ?_
    have hcc : fb_ct (fun i => decide (1 < cnt (T (12 * x0 + i)))) 12 ≤ 12 := fb_ct_le _ _
    refine v_fdiv C dX5_conflictShare_36 (shr_n hcc (by omega) hni) ?_
    exact v_xr (v_fret C hr hl () (by decide) (by decide) rfl ⟨(by (try simp only [Int.toNat_natCast]); rw [if_neg (by omega), if_neg (by omega)]), rfl⟩ dX5_conflictShare_37)
  ·
    exact v_throw C X 14 xG_NE rfl xaX5_conflictShare_135 xbX5_conflictShare_135 xcX5_conflictShare_135 hl dX5_conflictShare_12 dX5_conflictShare_15 dX5_conflictShare_16 dX5_conflictShare_18 dX5_conflictShare_21 (by decide) (Nat.le_of_ble_eq_true rfl) (by decide) (by decide) (by decide) (by decide) rfl (xE2 (by (try simp only [Int.toNat_natCast]); rw [if_neg (by omega), if_pos (by omega)]) rfl)
theorem inX5_sideAt_5 : ∀ w ∈ u_ws RX5 TX5 11, w ∈ wsX5_sideAt := by decide +kernel
theorem lkX5_sideAt_34 : Cond.fieldLink RX5 34 "MergeAtelier" "palette" "LMergeAtelier$Palette;" ∈ wsX5_sideAt := by decide +kernel
theorem inX5_sideAt_1 : ∀ w ∈ u_ws RX1 TX1 3, w ∈ wsX5_sideAt := by decide +kernel
theorem lkX5_sideAt_163 : Cond.fieldLink RX5 163 "MergeAtelier$Palette" "values" "[I" ∈ wsX5_sideAt := by decide +kernel
theorem lkX5_sideAt_59 : Cond.fieldLink RX5 59 "MergeAtelier" "kept" "LMergeAtelier$Table;" ∈ wsX5_sideAt := by decide +kernel
set_option maxHeartbeats 4000000 in
set_option maxRecDepth 100000 in
theorem kX5_sideAt (l : Launch) (g : vG) (sx : Nat → Nat) (hst : l.stackTraces = false) {ma m1 m2 m3 la tp qa sa ta ua : Nat} {kinds tgs : Nat → Int} {hds : Nat → Nat} {ni bc : Nat} {l1 l2 l3 l4 l5 l6 l7 l8 l9 : Nat} {deed item side picked qcnt An : Nat → Nat} {first second : Nat → Int} {cm : Nat} {tv tr : Nat} {vals : Nat → Int} {ris : Nat → Nat} {cn : Nat} {tlo thi : Nat} {T : Nat → Nat} {x y z : Int} (hx : b31 x) (hy : b31 y) (hz : b31 z) (hni : ni ≤ 12) (hcm : cm ≤ 100) (hcn : cn ≤ 100) (hrc : ∀ k, k < cn → ris k < cn) : xI l g sx yX5_sideAt wsX5_sideAt ({ frames := 7, cells := 1, slots := 6, locals := 115 }) [.ref (ma), .int (iI (x)), .int (iI (y)), .int (iI (z))] (wMA g ma m1 m2 m3 la tp qa sa ta ua kinds ni hds bc tgs ++ (wLog g la l1 l2 l3 l4 l5 l6 l7 l8 l9 deed first second item side picked qcnt An An cm ++ (wPal g tp tv tr vals ris cn ++ (wTab g ta tp tlo thi T T ++ ([]))))) (fun _ : Unit => wMA g ma m1 m2 m3 la tp qa sa ta ua kinds ni hds bc tgs ++ (wLog g la l1 l2 l3 l4 l5 l6 l7 l8 l9 deed first second item side picked qcnt An An cm ++ (wPal g tp tv tr vals ris cn ++ (wTab g ta tp tlo thi T T ++ ([]))))) (fun v _ => (if ¬ (0 ≤ x ∧ x < (cm : Int) ∧ 0 ≤ y ∧ y < (ni : Int)) then 1 else if sIx (fun j => (T (12 * x.toNat + y.toNat)).testBit (ris j)) ris z cn = -1 then 2 else 0 : Nat) = 0 ∧ v = iI (vals (sIx (fun j => (T (12 * x.toNat + y.toNat)).testBit (ris j)) ris z cn).toNat)) (fun E => xE [eIO, eNE] (if ¬ (0 ≤ x ∧ x < (cm : Int) ∧ 0 ≤ y ∧ y < (ni : Int)) then 1 else if sIx (fun j => (T (12 * x.toNat + y.toNat)).testBit (ris j)) ris z cn = -1 then 2 else 0 : Nat) E) 1 6 := by
  refine x_of (Qc := fun A => va_Qi (fun v _ => (if ¬ (0 ≤ x ∧ x < (cm : Int) ∧ 0 ≤ y ∧ y < (ni : Int)) then 1 else if sIx (fun j => (T (12 * x.toNat + y.toNat)).testBit (ris j)) ris z cn = -1 then 2 else 0 : Nat) = 0 ∧ v = iI (vals (sIx (fun j => (T (12 * x.toNat + y.toNat)).testBit (ris j)) ris z cn).toNat)) (mB g (fun _ : Unit => wMA g ma m1 m2 m3 la tp qa sa ta ua kinds ni hds bc tgs ++ (wLog g la l1 l2 l3 l4 l5 l6 l7 l8 l9 deed first second item side picked qcnt An An cm ++ (wPal g tp tv tr vals ris cn ++ (wTab g ta tp tlo thi T T ++ ([]))))) A) A) (cc := cX5_sideAt) (maxL := 4) (ret := (some .int)) (own := RX5) hst (by decide) rfl rfl (Nat.le_of_ble_eq_true rfl) ?_
  intro p e s m args below meth c A C X hr hl
  have hx1 := hx.1
  have hx2 := hx.2
  have hy1 := hy.1
  have hy2 := hy.2
  have hz1 := hz.1
  have hz2 := hz.2
  refine v_aload_n C dX5_sideAt_0 rfl 0 rfl ?_
  refine v_iload_n C dX5_sideAt_1 rfl 1 rfl ?_
  by_cases q_1 : 0 ≤ x ∧ x < ((cm : Nat) : Int)
  rotate_left
  ·
    refine v_xinvV C X (As := [.int (iI (x))]) (q0 := 0) (ci := 5) (kX5_requireCommit_bad l g sx hst (ma := ma) (m1 := m1) (m2 := m2) (m3 := m3) (la := la) (tp := tp) (qa := qa) (sa := sa) (ta := ta) (ua := ua) (kinds := kinds) (ni := ni) (hds := hds) (bc := bc) (tgs := tgs) (l1 := l1) (l2 := l2) (l3 := l3) (l4 := l4) (l5 := l5) (l6 := l6) (l7 := l7) (l8 := l8) (l9 := l9) (deed := deed) (item := item) (side := side) (picked := picked) (qcnt := qcnt) (An := An) (first := first) (second := second) (cm := cm) (x := x) ⟨by omega, by omega⟩ (by omega) (by omega)) (cwV 1 C.2.2.2.2.1 gX5_sideAt_X5_requireCommit rfl rfl rfl (by decide +kernel) ⟨Nat.le_of_ble_eq_true rfl, Nat.le_of_ble_eq_true rfl⟩) [wMA g ma m1 m2 m3 la tp qa sa ta ua kinds ni hds bc tgs, wLog g la l1 l2 l3 l4 l5 l6 l7 l8 l9 deed first second item side picked qcnt An An cm, wPal g tp tv tr vals ris cn, wTab g ta tp tlo thi T T] [0, 1] [2, 3] [] (fun _ => [wMA g ma m1 m2 m3 la tp qa sa ta ua kinds ni hds bc tgs, wLog g la l1 l2 l3 l4 l5 l6 l7 l8 l9 deed first second item side picked qcnt An An cm, wPal g tp tv tr vals ris cn, wTab g ta tp tlo thi T T]) (fun _ => wMA g ma m1 m2 m3 la tp qa sa ta ua kinds ni hds bc tgs ++ (wLog g la l1 l2 l3 l4 l5 l6 l7 l8 l9 deed first second item side picked qcnt An An cm ++ (wPal g tp tv tr vals ris cn ++ (wTab g ta tp tlo thi T T ++ ([]))))) rfl rfl rfl (fun _ => rfl) (fun _ => rfl) (fun _ => rfl) (fun _ => rfl) rfl rfl rfl rfl rfl (Nat.le_of_ble_eq_true rfl) hl rfl (fun E h => h ▸ (xE1 (by (try simp only [Int.toNat_natCast]); rw [if_pos (by omega)]) rfl)) dX5_sideAt_2 ⟨by decide, by decide⟩ ⟨by decide, by decide⟩ (fun _ hff => hff.elim)
  obtain ⟨x0, rfl⟩ : ∃ i : Nat, x = (i : Int) := ⟨(x).toNat, by omega⟩
  have hx0 : x0 < cm := by omega
  refine v_invVV C (As := [.int (iI ((x0 : Nat) : Int))]) (q0 := 0) (ci := 5) (kX5_requireCommit_ok l g (ma := ma) (m1 := m1) (m2 := m2) (m3 := m3) (la := la) (tp := tp) (qa := qa) (sa := sa) (ta := ta) (ua := ua) (kinds := kinds) (ni := ni) (hds := hds) (bc := bc) (tgs := tgs) (l1 := l1) (l2 := l2) (l3 := l3) (l4 := l4) (l5 := l5) (l6 := l6) (l7 := l7) (l8 := l8) (l9 := l9) (deed := deed) (item := item) (side := side) (picked := picked) (qcnt := qcnt) (An := An) (first := first) (second := second) (cm := cm) (i0 := x0) (by omega) (by omega)) (cwV 1 C.2.2.2.2.1 gX5_sideAt_X5_requireCommit rfl rfl rfl (by decide +kernel) ⟨Nat.le_of_ble_eq_true rfl, Nat.le_of_ble_eq_true rfl⟩) [wMA g ma m1 m2 m3 la tp qa sa ta ua kinds ni hds bc tgs, wLog g la l1 l2 l3 l4 l5 l6 l7 l8 l9 deed first second item side picked qcnt An An cm, wPal g tp tv tr vals ris cn, wTab g ta tp tlo thi T T] [0, 1] [2, 3] [] (fun _ => [wMA g ma m1 m2 m3 la tp qa sa ta ua kinds ni hds bc tgs, wLog g la l1 l2 l3 l4 l5 l6 l7 l8 l9 deed first second item side picked qcnt An An cm, wPal g tp tv tr vals ris cn, wTab g ta tp tlo thi T T]) (fun _ => wMA g ma m1 m2 m3 la tp qa sa ta ua kinds ni hds bc tgs ++ (wLog g la l1 l2 l3 l4 l5 l6 l7 l8 l9 deed first second item side picked qcnt An An cm ++ (wPal g tp tv tr vals ris cn ++ (wTab g ta tp tlo thi T T ++ ([]))))) rfl rfl rfl (fun _ => rfl) (fun _ => rfl) (fun _ => rfl) (fun _ => rfl) rfl rfl rfl rfl rfl (Nat.le_of_ble_eq_true rfl) dX5_sideAt_2 ⟨by decide, by decide⟩ (fun _ h_4 => ?_)
  refine v_aload_n C dX5_sideAt_5 rfl 0 rfl ?_
  refine v_iload_n C dX5_sideAt_6 rfl 2 rfl ?_
  by_cases q_6 : 0 ≤ y ∧ y < ((ni : Nat) : Int)
  rotate_left
  ·
    refine v_xinvV C X (As := [.int (iI (y))]) (q0 := 0) (ci := 5) (kX5_requireItem_bad l g sx hst (ma := ma) (m1 := m1) (m2 := m2) (m3 := m3) (la := la) (tp := tp) (qa := qa) (sa := sa) (ta := ta) (ua := ua) (kinds := kinds) (ni := ni) (hds := hds) (bc := bc) (tgs := tgs)  (x := y) ⟨by omega, by omega⟩ (by omega) (by omega)) (cwV 1 C.2.2.2.2.1 gX5_sideAt_X5_requireItem rfl rfl rfl (by decide +kernel) ⟨Nat.le_of_ble_eq_true rfl, Nat.le_of_ble_eq_true rfl⟩) [wMA g ma m1 m2 m3 la tp qa sa ta ua kinds ni hds bc tgs, wLog g la l1 l2 l3 l4 l5 l6 l7 l8 l9 deed first second item side picked qcnt An An cm, wPal g tp tv tr vals ris cn, wTab g ta tp tlo thi T T] [0] [1, 2, 3] [] (fun _ => [wMA g ma m1 m2 m3 la tp qa sa ta ua kinds ni hds bc tgs, wLog g la l1 l2 l3 l4 l5 l6 l7 l8 l9 deed first second item side picked qcnt An An cm, wPal g tp tv tr vals ris cn, wTab g ta tp tlo thi T T]) (fun _ => wMA g ma m1 m2 m3 la tp qa sa ta ua kinds ni hds bc tgs ++ (wLog g la l1 l2 l3 l4 l5 l6 l7 l8 l9 deed first second item side picked qcnt An An cm ++ (wPal g tp tv tr vals ris cn ++ (wTab g ta tp tlo thi T T ++ ([]))))) rfl rfl rfl (fun _ => rfl) (fun _ => rfl) (fun _ => rfl) (fun _ => rfl) rfl rfl rfl rfl rfl (Nat.le_of_ble_eq_true rfl) hl rfl (fun E h => h ▸ (xE1 (by (try simp only [Int.toNat_natCast]); rw [if_pos (by omega)]) rfl)) dX5_sideAt_7 ⟨by decide, by decide⟩ ⟨by decide, by decide⟩ (fun _ hff => hff.elim)
  obtain ⟨y0, rfl⟩ : ∃ i : Nat, y = (i : Int) := ⟨(y).toNat, by omega⟩
  have hy0 : y0 < ni := by omega
  refine v_invVV C (As := [.int (iI ((y0 : Nat) : Int))]) (q0 := 0) (ci := 5) (kX5_requireItem_ok l g (ma := ma) (m1 := m1) (m2 := m2) (m3 := m3) (la := la) (tp := tp) (qa := qa) (sa := sa) (ta := ta) (ua := ua) (kinds := kinds) (ni := ni) (hds := hds) (bc := bc) (tgs := tgs)  (i0 := y0) (by omega) (by omega)) (cwV 1 C.2.2.2.2.1 gX5_sideAt_X5_requireItem rfl rfl rfl (by decide +kernel) ⟨Nat.le_of_ble_eq_true rfl, Nat.le_of_ble_eq_true rfl⟩) [wMA g ma m1 m2 m3 la tp qa sa ta ua kinds ni hds bc tgs, wLog g la l1 l2 l3 l4 l5 l6 l7 l8 l9 deed first second item side picked qcnt An An cm, wPal g tp tv tr vals ris cn, wTab g ta tp tlo thi T T] [0] [1, 2, 3] [] (fun _ => [wMA g ma m1 m2 m3 la tp qa sa ta ua kinds ni hds bc tgs, wLog g la l1 l2 l3 l4 l5 l6 l7 l8 l9 deed first second item side picked qcnt An An cm, wPal g tp tv tr vals ris cn, wTab g ta tp tlo thi T T]) (fun _ => wMA g ma m1 m2 m3 la tp qa sa ta ua kinds ni hds bc tgs ++ (wLog g la l1 l2 l3 l4 l5 l6 l7 l8 l9 deed first second item side picked qcnt An An cm ++ (wPal g tp tv tr vals ris cn ++ (wTab g ta tp tlo thi T T ++ ([]))))) rfl rfl rfl (fun _ => rfl) (fun _ => rfl) (fun _ => rfl) (fun _ => rfl) rfl rfl rfl rfl rfl (Nat.le_of_ble_eq_true rfl) dX5_sideAt_7 ⟨by decide, by decide⟩ (fun _ h_9 => ?_)
  refine v_aload_n C dX5_sideAt_10 rfl 0 rfl ?_
  refine v_get C 0 (kf := 6) rfl rfl (by decide) inX5_sideAt_5 lkX5_sideAt_34 rfl rfl dX5_sideAt_11 ?_
  refine v_get C 14 (kf := 0) rfl rfl (by decide) inX5_sideAt_1 lkX5_sideAt_163 rfl rfl dX5_sideAt_14 ?_
  refine v_aload_n C dX5_sideAt_17 rfl 0 rfl ?_
  refine v_aload_n C dX5_sideAt_18 rfl 0 rfl ?_
  refine v_get C 0 (kf := 9) rfl rfl (by decide) inX5_sideAt_5 lkX5_sideAt_59 rfl rfl dX5_sideAt_19 ?_
  refine v_iload_n C dX5_sideAt_22 rfl 1 rfl ?_
  refine v_iload_n C dX5_sideAt_23 rfl 2 rfl ?_
  refine v_iload_n C dX5_sideAt_24 rfl 3 rfl ?_
  by_cases q_11 : sIx (fun j => (T (12 * x0 + y0)).testBit (ris j)) ris (z) cn = -1
  ·
    refine v_xinvI C X (As := [.ref (ta), .int (iI ((x0 : Nat) : Int)), .int (iI ((y0 : Nat) : Int)), .int (iI (z))]) (q0 := 0) (ci := 5) (kX5_requireSide_bad l g sx hst (ma := ma) (m1 := m1) (m2 := m2) (m3 := m3) (la := la) (tp := tp) (qa := qa) (sa := sa) (ta := ta) (ua := ua) (kinds := kinds) (ni := ni) (hds := hds) (bc := bc) (tgs := tgs) (xa := ta) (tlo := tlo) (thi := thi) (T := T) (tv := tv) (tr := tr) (vals := vals) (ris := ris) (cn := cn) (r0 := x0) (i0 := y0) (ix := z) (by omega) (by omega) ⟨by omega, by omega⟩ (by omega) hrc q_11) (cwV 4 C.2.2.2.2.1 gX5_sideAt_X5_requireSide rfl rfl rfl (by decide +kernel) ⟨Nat.le_of_ble_eq_true rfl, Nat.le_of_ble_eq_true rfl⟩) [wMA g ma m1 m2 m3 la tp qa sa ta ua kinds ni hds bc tgs, wLog g la l1 l2 l3 l4 l5 l6 l7 l8 l9 deed first second item side picked qcnt An An cm, wPal g tp tv tr vals ris cn, wTab g ta tp tlo thi T T] [0, 3, 2] [1] [.ref (tv)] (fun _ => [wMA g ma m1 m2 m3 la tp qa sa ta ua kinds ni hds bc tgs, wLog g la l1 l2 l3 l4 l5 l6 l7 l8 l9 deed first second item side picked qcnt An An cm, wPal g tp tv tr vals ris cn, wTab g ta tp tlo thi T T]) (fun _ => wMA g ma m1 m2 m3 la tp qa sa ta ua kinds ni hds bc tgs ++ (wLog g la l1 l2 l3 l4 l5 l6 l7 l8 l9 deed first second item side picked qcnt An An cm ++ (wPal g tp tv tr vals ris cn ++ (wTab g ta tp tlo thi T T ++ ([]))))) rfl rfl rfl (fun _ => rfl) (fun _ => rfl) (fun _ => rfl) (fun _ => rfl) rfl rfl rfl rfl rfl (Nat.le_of_ble_eq_true rfl) hl rfl (fun E h => h ▸ (xE2 (by (try simp only [Int.toNat_natCast]); rw [if_neg (by omega), if_pos q_11]) rfl)) dX5_sideAt_25 ⟨by decide, by decide⟩ ⟨by decide, by decide⟩ (fun _ _ hff => hff.elim)
  refine v_invVI C (As := [.ref (ta), .int (iI ((x0 : Nat) : Int)), .int (iI ((y0 : Nat) : Int)), .int (iI (z))]) (q0 := 0) (ci := 5) (kX5_requireSide_ok l g (ma := ma) (m1 := m1) (m2 := m2) (m3 := m3) (la := la) (tp := tp) (qa := qa) (sa := sa) (ta := ta) (ua := ua) (kinds := kinds) (ni := ni) (hds := hds) (bc := bc) (tgs := tgs) (xa := ta) (tlo := tlo) (thi := thi) (T := T) (tv := tv) (tr := tr) (vals := vals) (ris := ris) (cn := cn) (r0 := x0) (i0 := y0) (ix := z) (by omega) (by omega) ⟨by omega, by omega⟩ (by omega) hrc q_11) (cwV 4 C.2.2.2.2.1 gX5_sideAt_X5_requireSide rfl rfl rfl (by decide +kernel) ⟨Nat.le_of_ble_eq_true rfl, Nat.le_of_ble_eq_true rfl⟩) [wMA g ma m1 m2 m3 la tp qa sa ta ua kinds ni hds bc tgs, wLog g la l1 l2 l3 l4 l5 l6 l7 l8 l9 deed first second item side picked qcnt An An cm, wPal g tp tv tr vals ris cn, wTab g ta tp tlo thi T T] [0, 3, 2] [1] [.ref (tv)] (fun _ => [wMA g ma m1 m2 m3 la tp qa sa ta ua kinds ni hds bc tgs, wLog g la l1 l2 l3 l4 l5 l6 l7 l8 l9 deed first second item side picked qcnt An An cm, wPal g tp tv tr vals ris cn, wTab g ta tp tlo thi T T]) (fun _ => wMA g ma m1 m2 m3 la tp qa sa ta ua kinds ni hds bc tgs ++ (wLog g la l1 l2 l3 l4 l5 l6 l7 l8 l9 deed first second item side picked qcnt An An cm ++ (wPal g tp tv tr vals ris cn ++ (wTab g ta tp tlo thi T T ++ ([]))))) rfl rfl rfl (fun _ => rfl) (fun _ => rfl) (fun _ => rfl) (fun _ => rfl) rfl rfl rfl rfl rfl (Nat.le_of_ble_eq_true rfl) dX5_sideAt_25 ⟨by decide, by decide⟩ (fun r_15 _ h_14 => ?_)
  subst h_14
  have hsb := (sIx_nat q_11 hrc).2
  refine v_iald C 15 ((sIx (fun j => (T (12 * x0 + y0)).testBit (ris j)) ris (z) cn).toNat) rfl rfl (by omega) (by decide) dX5_sideAt_28 ?_
  exact v_xr (v_iret C hr hl () (by decide) (by decide) rfl ⟨(by (try simp only [Int.toNat_natCast]); rw [if_neg (by omega), if_neg q_11]), rfl⟩ dX5_sideAt_29)
/-- the table behind the n first lines of the log, written once more -/
def rpl (vals : Nat → Int) (cn : Nat) (qi qo : Nat → Nat) (qs : Nat → Int) (deed item side picked qcnt An : Nat → Nat) (first second : Nat → Int) (T : Nat → Nat) : Nat → Nat → Nat
  | 0 => T
  | n + 1 => wrT vals cn qi qo qs deed item side picked qcnt An first second (rpl vals cn qi qo qs deed item side picked qcnt An first second T n) n
theorem rpl128 {vals : Nat → Int} {cn : Nat} {qi qo : Nat → Nat} {qs : Nat → Int} {deed item side picked qcnt An : Nat → Nat} {first second : Nat → Int} {T : Nat → Nat} (h : T128 T) : ∀ n, (∀ j, j < n → lok deed item side picked qcnt first second j) → T128 (rpl vals cn qi qo qs deed item side picked qcnt An first second T n)
  | 0, _ => h
  | n + 1, hl => wrT128 (rpl128 h n (fun j hj => hl j (Nat.lt_succ_of_lt hj))) (hl n (Nat.lt_succ_self n))
