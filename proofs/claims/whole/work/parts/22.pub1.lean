theorem xE1 {names : List String} {cd : Nat} {E : String} (h : cd = 1) (h2 : names[0]? = some E) : xE names cd E := ⟨0, h, h2⟩
theorem xE2 {names : List String} {cd : Nat} {E : String} (h : cd = 2) (h2 : names[1]? = some E) : xE names cd E := ⟨1, h, h2⟩
theorem xE3 {names : List String} {cd : Nat} {E : String} (h : cd = 3) (h2 : names[2]? = some E) : xE names cd E := ⟨2, h, h2⟩
theorem xE4 {names : List String} {cd : Nat} {E : String} (h : cd = 4) (h2 : names[3]? = some E) : xE names cd E := ⟨3, h, h2⟩
theorem inX5_head_5 : ∀ w ∈ u_ws RX5 TX5 11, w ∈ wsX5_head := by decide +kernel
theorem lkX5_head_13 : Cond.fieldLink RX5 13 "MergeAtelier" "heads" "[I" ∈ wsX5_head := by decide +kernel
set_option maxHeartbeats 4000000 in
set_option maxRecDepth 100000 in
theorem kX5_head (l : Launch) (g : vG) (sx : Nat → Nat) (hst : l.stackTraces = false) {ma m1 m2 m3 la tp qa sa ta ua : Nat} {kinds tgs : Nat → Int} {hds : Nat → Nat} {ni bc : Nat} {x : Int} (hx : b31 x) (hbc : bc ≤ 5) : xI l g sx yX5_head wsX5_head ({ frames := 7, cells := 1, slots := 6, locals := 111 }) [.ref (ma), .int (iI (x))] (wMA g ma m1 m2 m3 la tp qa sa ta ua kinds ni hds bc tgs) (fun _ : Unit => wMA g ma m1 m2 m3 la tp qa sa ta ua kinds ni hds bc tgs) (fun v _ => (if ¬ (0 ≤ x ∧ x < (bc : Int)) then 1 else 0 : Nat) = 0 ∧ v = iI ((hds x.toNat : Nat) : Int)) (fun E => xE [eIO] (if ¬ (0 ≤ x ∧ x < (bc : Int)) then 1 else 0 : Nat) E) 1 6 := by
  refine x_of (Qc := fun A => va_Qi (fun v _ => (if ¬ (0 ≤ x ∧ x < (bc : Int)) then 1 else 0 : Nat) = 0 ∧ v = iI ((hds x.toNat : Nat) : Int)) (mB g (fun _ : Unit => wMA g ma m1 m2 m3 la tp qa sa ta ua kinds ni hds bc tgs) A) A) (cc := cX5_head) (maxL := 2) (ret := (some .int)) (own := RX5) hst (by decide) rfl rfl (Nat.le_of_ble_eq_true rfl) ?_
  intro p e s m args below meth c A C X hr hl
  have hx1 := hx.1
  have hx2 := hx.2
  refine v_aload_n C dX5_head_0 rfl 0 rfl ?_
  refine v_iload_n C dX5_head_1 rfl 1 rfl ?_
  by_cases q_1 : 0 ≤ x ∧ x < ((bc : Nat) : Int)
  rotate_left
  ·
    refine v_xinvV C X (As := [.int (iI (x))]) (q0 := 0) (ci := 5) (kX5_requireBranch_bad l g sx hst (ma := ma) (m1 := m1) (m2 := m2) (m3 := m3) (la := la) (tp := tp) (qa := qa) (sa := sa) (ta := ta) (ua := ua) (kinds := kinds) (ni := ni) (hds := hds) (bc := bc) (tgs := tgs)  (x := x) ⟨by omega, by omega⟩ (by omega) (by omega)) (cwV 1 C.2.2.2.2.1 gX5_head_X5_requireBranch rfl rfl rfl (by decide +kernel) ⟨Nat.le_of_ble_eq_true rfl, Nat.le_of_ble_eq_true rfl⟩) [0, 1, 2, 3] [] [0, 1, 2, 3] [] (fun _ => wMA g ma m1 m2 m3 la tp qa sa ta ua kinds ni hds bc tgs) rfl rfl rfl (fun _ => rfl) rfl rfl rfl rfl rfl rfl (Nat.le_of_ble_eq_true rfl) hl rfl (fun E h => h ▸ (xE1 (by (try simp only [Int.toNat_natCast]); rw [if_pos (by omega)]) rfl)) dX5_head_2 ⟨by decide, by decide⟩ ⟨by decide, by decide⟩ (fun _ hff => hff.elim)
  obtain ⟨x0, rfl⟩ : ∃ i : Nat, x = (i : Int) := ⟨(x).toNat, by omega⟩
  have hx0 : x0 < bc := by omega
  refine v_invVV C (As := [.int (iI ((x0 : Nat) : Int))]) (q0 := 0) (ci := 5) (kX5_requireBranch_ok l g (ma := ma) (m1 := m1) (m2 := m2) (m3 := m3) (la := la) (tp := tp) (qa := qa) (sa := sa) (ta := ta) (ua := ua) (kinds := kinds) (ni := ni) (hds := hds) (bc := bc) (tgs := tgs)  (i0 := x0) (by omega) (by omega)) (cwV 1 C.2.2.2.2.1 gX5_head_X5_requireBranch rfl rfl rfl (by decide +kernel) ⟨Nat.le_of_ble_eq_true rfl, Nat.le_of_ble_eq_true rfl⟩) [0, 1, 2, 3] [] [0, 1, 2, 3] [] (fun _ => wMA g ma m1 m2 m3 la tp qa sa ta ua kinds ni hds bc tgs) rfl rfl rfl (fun _ => rfl) rfl rfl rfl rfl rfl (Nat.le_of_ble_eq_true rfl) dX5_head_2 ⟨by decide, by decide⟩ (fun _ h_4 => ?_)
  refine v_aload_n C dX5_head_5 rfl 0 rfl ?_
  refine v_get C 0 (kf := 2) rfl rfl (by decide) inX5_head_5 lkX5_head_13 rfl rfl dX5_head_6 ?_
  refine v_iload_n C dX5_head_9 rfl 1 rfl ?_
  refine v_ialdn C 2 (x0) rfl rfl (by omega) (by decide) dX5_head_10 ?_
  exact v_xr (v_iret C hr hl () (by decide) (by decide) rfl ⟨(by (try simp only [Int.toNat_natCast]); rw [if_neg (by omega)]), rfl⟩ dX5_head_11)
theorem inX5_addBranch_5 : ∀ w ∈ u_ws RX5 TX5 11, w ∈ wsX5_addBranch := by decide +kernel
theorem lkX5_addBranch_17 : Cond.fieldLink RX5 17 "MergeAtelier" "branchCount" "I" ∈ wsX5_addBranch := by decide +kernel
theorem lkX5_addBranch_13 : Cond.fieldLink RX5 13 "MergeAtelier" "heads" "[I" ∈ wsX5_addBranch := by decide +kernel
theorem xaX5_addBranch_80 : Cond.classLink RX5 80 eIS ∈ wsX5_addBranch := by decide +kernel
theorem xbX5_addBranch_80 : Cond.initialized eIS ∈ wsX5_addBranch := by decide +kernel
theorem xcX5_addBranch_80 : ∀ w ∈ (vx_atS RX5 84 eIS exN).filter goodWord, w ∈ wsX5_addBranch := by decide +kernel
set_option maxHeartbeats 4000000 in
set_option maxRecDepth 100000 in
theorem kX5_addBranch (l : Launch) (g : vG) (sx : Nat → Nat) (hst : l.stackTraces = false) {ma m1 m2 m3 la tp qa sa ta ua : Nat} {kinds tgs : Nat → Int} {hds : Nat → Nat} {ni bc : Nat} {l1 l2 l3 l4 l5 l6 l7 l8 l9 : Nat} {deed item side picked qcnt An : Nat → Nat} {first second : Nat → Int} {cm : Nat} {x : Int} (hx : b31 x) (hbc : bc ≤ 5) (hcm : cm ≤ 100) : xI l g sx yX5_addBranch wsX5_addBranch ({ frames := 7, cells := 1, slots := 6, locals := 111 }) [.ref (ma), .int (iI (x))] (wMA g ma m1 m2 m3 la tp qa sa ta ua kinds ni hds bc tgs ++ wLog g la l1 l2 l3 l4 l5 l6 l7 l8 l9 deed first second item side picked qcnt An An cm) (fun _ : Unit => wMA g ma m1 m2 m3 la tp qa sa ta ua kinds ni (updN hds (bc) (x.toNat)) (bc + 1) tgs ++ wLog g la l1 l2 l3 l4 l5 l6 l7 l8 l9 deed first second item side picked qcnt An An cm) (fun v _ => (if ¬ (0 ≤ x ∧ x < (cm : Int)) then 1 else if bc = 5 then 2 else 0 : Nat) = 0 ∧ v = iI ((bc : Nat) : Int)) (fun E => xE [eIO, eIS] (if ¬ (0 ≤ x ∧ x < (cm : Int)) then 1 else if bc = 5 then 2 else 0 : Nat) E) 1 6 := by
  refine x_of (Qc := fun A => va_Qi (fun v _ => (if ¬ (0 ≤ x ∧ x < (cm : Int)) then 1 else if bc = 5 then 2 else 0 : Nat) = 0 ∧ v = iI ((bc : Nat) : Int)) (mB g (fun _ : Unit => wMA g ma m1 m2 m3 la tp qa sa ta ua kinds ni (updN hds (bc) (x.toNat)) (bc + 1) tgs ++ wLog g la l1 l2 l3 l4 l5 l6 l7 l8 l9 deed first second item side picked qcnt An An cm) A) A) (cc := cX5_addBranch) (maxL := 2) (ret := (some .int)) (own := RX5) hst (by decide) rfl rfl (Nat.le_of_ble_eq_true rfl) ?_
  intro p e s m args below meth c A C X hr hl
  have hx1 := hx.1
  have hx2 := hx.2
  refine v_aload_n C dX5_addBranch_0 rfl 0 rfl ?_
  refine v_iload_n C dX5_addBranch_1 rfl 1 rfl ?_
  by_cases q_1 : 0 ≤ x ∧ x < ((cm : Nat) : Int)
  rotate_left
  ·
    refine v_xinvV C X (As := [.int (iI (x))]) (q0 := 0) (ci := 5) (kX5_requireCommit_bad l g sx hst (ma := ma) (m1 := m1) (m2 := m2) (m3 := m3) (la := la) (tp := tp) (qa := qa) (sa := sa) (ta := ta) (ua := ua) (kinds := kinds) (ni := ni) (hds := hds) (bc := bc) (tgs := tgs) (l1 := l1) (l2 := l2) (l3 := l3) (l4 := l4) (l5 := l5) (l6 := l6) (l7 := l7) (l8 := l8) (l9 := l9) (deed := deed) (item := item) (side := side) (picked := picked) (qcnt := qcnt) (An := An) (first := first) (second := second) (cm := cm) (x := x) ⟨by omega, by omega⟩ (by omega) (by omega)) (cwV 1 C.2.2.2.2.1 gX5_addBranch_X5_requireCommit rfl rfl rfl (by decide +kernel) ⟨Nat.le_of_ble_eq_true rfl, Nat.le_of_ble_eq_true rfl⟩) [0, 1, 2, 3, 4, 5, 6, 7, 8, 9, 10, 11, 12, 13] [] [0, 1, 2, 3, 4, 5, 6, 7, 8, 9, 10, 11, 12, 13] [] (fun _ => wMA g ma m1 m2 m3 la tp qa sa ta ua kinds ni hds bc tgs ++ wLog g la l1 l2 l3 l4 l5 l6 l7 l8 l9 deed first second item side picked qcnt An An cm) rfl rfl rfl (fun _ => rfl) rfl rfl rfl rfl rfl rfl (Nat.le_of_ble_eq_true rfl) hl rfl (fun E h => h ▸ (xE1 (by (try simp only [Int.toNat_natCast]); rw [if_pos (by omega)]) rfl)) dX5_addBranch_2 ⟨by decide, by decide⟩ ⟨by decide, by decide⟩ (fun _ hff => hff.elim)
  obtain ⟨x0, rfl⟩ : ∃ i : Nat, x = (i : Int) := ⟨(x).toNat, by omega⟩
  have hx0 : x0 < cm := by omega
  refine v_invVV C (As := [.int (iI ((x0 : Nat) : Int))]) (q0 := 0) (ci := 5) (kX5_requireCommit_ok l g (ma := ma) (m1 := m1) (m2 := m2) (m3 := m3) (la := la) (tp := tp) (qa := qa) (sa := sa) (ta := ta) (ua := ua) (kinds := kinds) (ni := ni) (hds := hds) (bc := bc) (tgs := tgs) (l1 := l1) (l2 := l2) (l3 := l3) (l4 := l4) (l5 := l5) (l6 := l6) (l7 := l7) (l8 := l8) (l9 := l9) (deed := deed) (item := item) (side := side) (picked := picked) (qcnt := qcnt) (An := An) (first := first) (second := second) (cm := cm) (i0 := x0) (by omega) (by omega)) (cwV 1 C.2.2.2.2.1 gX5_addBranch_X5_requireCommit rfl rfl rfl (by decide +kernel) ⟨Nat.le_of_ble_eq_true rfl, Nat.le_of_ble_eq_true rfl⟩) [0, 1, 2, 3, 4, 5, 6, 7, 8, 9, 10, 11, 12, 13] [] [0, 1, 2, 3, 4, 5, 6, 7, 8, 9, 10, 11, 12, 13] [] (fun _ => wMA g ma m1 m2 m3 la tp qa sa ta ua kinds ni hds bc tgs ++ wLog g la l1 l2 l3 l4 l5 l6 l7 l8 l9 deed first second item side picked qcnt An An cm) rfl rfl rfl (fun _ => rfl) rfl rfl rfl rfl rfl (Nat.le_of_ble_eq_true rfl) dX5_addBranch_2 ⟨by decide, by decide⟩ (fun _ h_4 => ?_)
  refine v_aload_n C dX5_addBranch_5 rfl 0 rfl ?_
  refine v_get C 0 (kf := 3) rfl rfl (by decide) inX5_addBranch_5 lkX5_addBranch_17 rfl rfl dX5_addBranch_6 ?_
  refine v_iconst C (z := 5) dX5_addBranch_9 ?_
  refine v_icmp_lt C 23 dX5_addBranch_10 (by decide) ⟨by omega, by omega⟩ (b31_lit _ rfl) (fun c_6 => ?_) (fun c_6 => ?_)
  ·
    refine v_aload_n C dX5_addBranch_23 rfl 0 rfl ?_
    refine v_get C 0 (kf := 2) rfl rfl (by decide) inX5_addBranch_5 lkX5_addBranch_13 rfl rfl dX5_addBranch_24 ?_
    refine v_aload_n C dX5_addBranch_27 rfl 0 rfl ?_
    refine v_get C 0 (kf := 3) rfl rfl (by decide) inX5_addBranch_5 lkX5_addBranch_17 rfl rfl dX5_addBranch_28 ?_
    refine v_iload_n C dX5_addBranch_31 rfl 1 rfl ?_
    refine v_iastn C 2 (bc) (wMA g ma m1 m2 m3 la tp qa sa ta ua kinds ni (updN hds (bc) (x0)) bc tgs ++ wLog g la l1 l2 l3 l4 l5 l6 l7 l8 l9 deed first second item side picked qcnt An An cm) rfl rfl (by omega) (by decide) dX5_addBranch_32 rfl ?_
    refine v_aload_n C dX5_addBranch_33 rfl 0 rfl ?_
    refine v_dup C dX5_addBranch_34 rfl ?_
    refine v_get C 0 (kf := 3) rfl rfl (by decide) inX5_addBranch_5 lkX5_addBranch_17 rfl rfl dX5_addBranch_35 ?_
    refine v_iconst C (z := 1) dX5_addBranch_38 ?_
    refine v_iadd C dX5_addBranch_39 ?_
    rw [show (((bc : Nat) : Int)) + 1 = ((bc + 1 : Nat) : Int) from rfl]
    refine v_put C 0 (kf := 3) (wMA g ma m1 m2 m3 la tp qa sa ta ua kinds ni (updN hds (bc) (x0)) (bc + 1) tgs ++ wLog g la l1 l2 l3 l4 l5 l6 l7 l8 l9 deed first second item side picked qcnt An An cm) rfl rfl (by decide) inX5_addBranch_5 lkX5_addBranch_17 rfl tyX5_ok nmX5 rfl rfl rfl (Nat.le_of_ble_eq_true rfl) dX5_addBranch_40 rfl ?_
    refine v_aload_n C dX5_addBranch_43 rfl 0 rfl ?_
    refine v_get C 0 (kf := 3) rfl rfl (by decide) inX5_addBranch_5 lkX5_addBranch_17 rfl rfl dX5_addBranch_44 ?_
    refine v_iconst C (z := 1) dX5_addBranch_47 ?_
    refine v_isub C dX5_addBranch_48 ?_
    exact v_xr (v_iret C hr hl () (by decide) (by decide) rfl ⟨(by (try simp only [Int.toNat_natCast]); rw [if_neg (by omega), if_neg (by omega)]), (congrArg iI (by omega))⟩ dX5_addBranch_49)
  ·
    exact v_throw C X 2 xG_IS rfl xaX5_addBranch_80 xbX5_addBranch_80 xcX5_addBranch_80 hl dX5_addBranch_13 dX5_addBranch_16 dX5_addBranch_17 dX5_addBranch_19 dX5_addBranch_22 (by decide) (Nat.le_of_ble_eq_true rfl) (by decide) (by decide) (by decide) (by decide) rfl (xE2 (by (try simp only [Int.toNat_natCast]); rw [if_neg (by omega), if_pos (by omega)]) rfl)
theorem inX5_tag_5 : ∀ w ∈ u_ws RX5 TX5 11, w ∈ wsX5_tag := by decide +kernel
theorem lkX5_tag_21 : Cond.fieldLink RX5 21 "MergeAtelier" "tags" "[I" ∈ wsX5_tag := by decide +kernel
set_option maxHeartbeats 4000000 in
set_option maxRecDepth 100000 in
theorem kX5_tag (l : Launch) (g : vG) (sx : Nat → Nat) (hst : l.stackTraces = false) {ma m1 m2 m3 la tp qa sa ta ua : Nat} {kinds tgs : Nat → Int} {hds : Nat → Nat} {ni bc : Nat} {l1 l2 l3 l4 l5 l6 l7 l8 l9 : Nat} {deed item side picked qcnt An : Nat → Nat} {first second : Nat → Int} {cm : Nat} {x y : Int} (hx : b31 x) (hy : b31 y) (hcm : cm ≤ 100) : xI l g sx yX5_tag wsX5_tag ({ frames := 7, cells := 1, slots := 6, locals := 111 }) [.ref (ma), .int (iI (x)), .int (iI (y))] (wMA g ma m1 m2 m3 la tp qa sa ta ua kinds ni hds bc tgs ++ wLog g la l1 l2 l3 l4 l5 l6 l7 l8 l9 deed first second item side picked qcnt An An cm) (fun _ : Unit => wMA g ma m1 m2 m3 la tp qa sa ta ua kinds ni hds bc (updZ tgs (x.toNat) (y)) ++ wLog g la l1 l2 l3 l4 l5 l6 l7 l8 l9 deed first second item side picked qcnt An An cm) (fun v _ => (if ¬ (0 ≤ y ∧ y < (cm : Int)) then 1 else if ¬ (0 ≤ x ∧ x < 10) then 2 else 0 : Nat) = 0 ∧ v = iI (tgs x.toNat)) (fun E => xE [eIO, eIA] (if ¬ (0 ≤ y ∧ y < (cm : Int)) then 1 else if ¬ (0 ≤ x ∧ x < 10) then 2 else 0 : Nat) E) 1 6 := by
  refine x_of (Qc := fun A => va_Qi (fun v _ => (if ¬ (0 ≤ y ∧ y < (cm : Int)) then 1 else if ¬ (0 ≤ x ∧ x < 10) then 2 else 0 : Nat) = 0 ∧ v = iI (tgs x.toNat)) (mB g (fun _ : Unit => wMA g ma m1 m2 m3 la tp qa sa ta ua kinds ni hds bc (updZ tgs (x.toNat) (y)) ++ wLog g la l1 l2 l3 l4 l5 l6 l7 l8 l9 deed first second item side picked qcnt An An cm) A) A) (cc := cX5_tag) (maxL := 4) (ret := (some .int)) (own := RX5) hst (by decide) rfl rfl (Nat.le_of_ble_eq_true rfl) ?_
  intro p e s m args below meth c A C X hr hl
  have hx1 := hx.1
  have hx2 := hx.2
  have hy1 := hy.1
  have hy2 := hy.2
  refine v_aload_n C dX5_tag_0 rfl 0 rfl ?_
  refine v_iload_n C dX5_tag_1 rfl 2 rfl ?_
  by_cases q_1 : 0 ≤ y ∧ y < ((cm : Nat) : Int)
  rotate_left
  ·
    refine v_xinvV C X (As := [.int (iI (y))]) (q0 := 0) (ci := 5) (kX5_requireCommit_bad l g sx hst (ma := ma) (m1 := m1) (m2 := m2) (m3 := m3) (la := la) (tp := tp) (qa := qa) (sa := sa) (ta := ta) (ua := ua) (kinds := kinds) (ni := ni) (hds := hds) (bc := bc) (tgs := tgs) (l1 := l1) (l2 := l2) (l3 := l3) (l4 := l4) (l5 := l5) (l6 := l6) (l7 := l7) (l8 := l8) (l9 := l9) (deed := deed) (item := item) (side := side) (picked := picked) (qcnt := qcnt) (An := An) (first := first) (second := second) (cm := cm) (x := y) ⟨by omega, by omega⟩ (by omega) (by omega)) (cwV 1 C.2.2.2.2.1 gX5_tag_X5_requireCommit rfl rfl rfl (by decide +kernel) ⟨Nat.le_of_ble_eq_true rfl, Nat.le_of_ble_eq_true rfl⟩) [0, 1, 2, 3, 4, 5, 6, 7, 8, 9, 10, 11, 12, 13] [] [0, 1, 2, 3, 4, 5, 6, 7, 8, 9, 10, 11, 12, 13] [] (fun _ => wMA g ma m1 m2 m3 la tp qa sa ta ua kinds ni hds bc tgs ++ wLog g la l1 l2 l3 l4 l5 l6 l7 l8 l9 deed first second item side picked qcnt An An cm) rfl rfl rfl (fun _ => rfl) rfl rfl rfl rfl rfl rfl (Nat.le_of_ble_eq_true rfl) hl rfl (fun E h => h ▸ (xE1 (by (try simp only [Int.toNat_natCast]); rw [if_pos (by omega)]) rfl)) dX5_tag_2 ⟨by decide, by decide⟩ ⟨by decide, by decide⟩ (fun _ hff => hff.elim)
  obtain ⟨y0, rfl⟩ : ∃ i : Nat, y = (i : Int) := ⟨(y).toNat, by omega⟩
  have hy0 : y0 < cm := by omega
  refine v_invVV C (As := [.int (iI ((y0 : Nat) : Int))]) (q0 := 0) (ci := 5) (kX5_requireCommit_ok l g (ma := ma) (m1 := m1) (m2 := m2) (m3 := m3) (la := la) (tp := tp) (qa := qa) (sa := sa) (ta := ta) (ua := ua) (kinds := kinds) (ni := ni) (hds := hds) (bc := bc) (tgs := tgs) (l1 := l1) (l2 := l2) (l3 := l3) (l4 := l4) (l5 := l5) (l6 := l6) (l7 := l7) (l8 := l8) (l9 := l9) (deed := deed) (item := item) (side := side) (picked := picked) (qcnt := qcnt) (An := An) (first := first) (second := second) (cm := cm) (i0 := y0) (by omega) (by omega)) (cwV 1 C.2.2.2.2.1 gX5_tag_X5_requireCommit rfl rfl rfl (by decide +kernel) ⟨Nat.le_of_ble_eq_true rfl, Nat.le_of_ble_eq_true rfl⟩) [0, 1, 2, 3, 4, 5, 6, 7, 8, 9, 10, 11, 12, 13] [] [0, 1, 2, 3, 4, 5, 6, 7, 8, 9, 10, 11, 12, 13] [] (fun _ => wMA g ma m1 m2 m3 la tp qa sa ta ua kinds ni hds bc tgs ++ wLog g la l1 l2 l3 l4 l5 l6 l7 l8 l9 deed first second item side picked qcnt An An cm) rfl rfl rfl (fun _ => rfl) rfl rfl rfl rfl rfl (Nat.le_of_ble_eq_true rfl) dX5_tag_2 ⟨by decide, by decide⟩ (fun _ h_4 => ?_)
  refine v_aload_n C dX5_tag_5 rfl 0 rfl ?_
  refine v_iload_n C dX5_tag_6 rfl 1 rfl ?_
  by_cases q_6 : 0 ≤ x ∧ x < 10
  rotate_left
  ·
    refine v_xinvV C X (As := [.int (iI (x))]) (q0 := 0) (ci := 5) (kX5_requireTag_bad l g sx hst (ma := ma) (m1 := m1) (m2 := m2) (m3 := m3) (la := la) (tp := tp) (qa := qa) (sa := sa) (ta := ta) (ua := ua) (kinds := kinds) (ni := ni) (hds := hds) (bc := bc) (tgs := tgs)  (x := x) ⟨by omega, by omega⟩ (by omega) trivial) (cwV 1 C.2.2.2.2.1 gX5_tag_X5_requireTag rfl rfl rfl (by decide +kernel) ⟨Nat.le_of_ble_eq_true rfl, Nat.le_of_ble_eq_true rfl⟩) [0, 1, 2, 3] [4, 5, 6, 7, 8, 9, 10, 11, 12, 13] [10, 11, 12, 13, 0, 1, 2, 3, 4, 5, 6, 7, 8, 9] [] (fun _ => wMA g ma m1 m2 m3 la tp qa sa ta ua kinds ni hds bc tgs ++ wLog g la l1 l2 l3 l4 l5 l6 l7 l8 l9 deed first second item side picked qcnt An An cm) rfl rfl rfl (fun _ => rfl) rfl rfl rfl rfl rfl rfl (Nat.le_of_ble_eq_true rfl) hl rfl (fun E h => h ▸ (xE2 (by (try simp only [Int.toNat_natCast]); rw [if_neg (by omega), if_pos (by omega)]) rfl)) dX5_tag_7 ⟨by decide, by decide⟩ ⟨by decide, by decide⟩ (fun _ hff => hff.elim)
  obtain ⟨x0, rfl⟩ : ∃ i : Nat, x = (i : Int) := ⟨(x).toNat, by omega⟩
  have hx0 : x0 < 10 := by omega
  refine v_invVV C (As := [.int (iI ((x0 : Nat) : Int))]) (q0 := 0) (ci := 5) (kX5_requireTag_ok l g (ma := ma) (m1 := m1) (m2 := m2) (m3 := m3) (la := la) (tp := tp) (qa := qa) (sa := sa) (ta := ta) (ua := ua) (kinds := kinds) (ni := ni) (hds := hds) (bc := bc) (tgs := tgs)  (i0 := x0) (by omega) trivial) (cwV 1 C.2.2.2.2.1 gX5_tag_X5_requireTag rfl rfl rfl (by decide +kernel) ⟨Nat.le_of_ble_eq_true rfl, Nat.le_of_ble_eq_true rfl⟩) [0, 1, 2, 3] [4, 5, 6, 7, 8, 9, 10, 11, 12, 13] [10, 11, 12, 13, 0, 1, 2, 3, 4, 5, 6, 7, 8, 9] [] (fun _ => wMA g ma m1 m2 m3 la tp qa sa ta ua kinds ni hds bc tgs ++ wLog g la l1 l2 l3 l4 l5 l6 l7 l8 l9 deed first second item side picked qcnt An An cm) rfl rfl rfl (fun _ => rfl) rfl rfl rfl rfl rfl (Nat.le_of_ble_eq_true rfl) dX5_tag_7 ⟨by decide, by decide⟩ (fun _ h_9 => ?_)
  refine v_aload_n C dX5_tag_10 rfl 0 rfl ?_
  refine v_get C 0 (kf := 4) rfl rfl (by decide) inX5_tag_5 lkX5_tag_21 rfl rfl dX5_tag_11 ?_
  refine v_iload_n C dX5_tag_14 rfl 1 rfl ?_
  refine v_iald C 3 (x0) rfl rfl (by omega) (by decide) dX5_tag_15 ?_
  refine v_istore_n C [(3, .int (iI (tgs (x0)))), (0, .ref (ma)), (1, .int (iI ((x0 : Nat) : Int))), (2, .int (iI ((y0 : Nat) : Int)))] dX5_tag_16 rfl (by decide) rfl ?_
  refine v_aload_n C dX5_tag_17 rfl 1 rfl ?_
  refine v_get C 0 (kf := 4) rfl rfl (by decide) inX5_tag_5 lkX5_tag_21 rfl rfl dX5_tag_18 ?_
  refine v_iload_n C dX5_tag_21 rfl 2 rfl ?_
  refine v_iload_n C dX5_tag_22 rfl 3 rfl ?_
  refine v_iast C 3 (x0) (wMA g ma m1 m2 m3 la tp qa sa ta ua kinds ni hds bc (updZ tgs (x0) (((y0 : Nat) : Int))) ++ wLog g la l1 l2 l3 l4 l5 l6 l7 l8 l9 deed first second item side picked qcnt An An cm) rfl rfl (by omega) (by decide) dX5_tag_23 rfl ?_
  refine v_iload_n C dX5_tag_24 rfl 0 rfl ?_
  exact v_xr (v_iret C hr hl () (by decide) (by decide) rfl ⟨(by (try simp only [Int.toNat_natCast]); rw [if_neg (by omega), if_neg (by omega)]), rfl⟩ dX5_tag_25)
theorem inX5_tagged_5 : ∀ w ∈ u_ws RX5 TX5 11, w ∈ wsX5_tagged := by decide +kernel
theorem lkX5_tagged_21 : Cond.fieldLink RX5 21 "MergeAtelier" "tags" "[I" ∈ wsX5_tagged := by decide +kernel
theorem xaX5_tagged_135 : Cond.classLink RX5 135 eNE ∈ wsX5_tagged := by decide +kernel
theorem xbX5_tagged_135 : Cond.initialized eNE ∈ wsX5_tagged := by decide +kernel
theorem xcX5_tagged_135 : ∀ w ∈ (vx_atS RX5 139 eNE exN).filter goodWord, w ∈ wsX5_tagged := by decide +kernel
set_option maxHeartbeats 4000000 in
set_option maxRecDepth 100000 in
theorem kX5_tagged (l : Launch) (g : vG) (sx : Nat → Nat) (hst : l.stackTraces = false) {ma m1 m2 m3 la tp qa sa ta ua : Nat} {kinds tgs : Nat → Int} {hds : Nat → Nat} {ni bc : Nat} {x : Int} (hx : b31 x) (htg : ∀ k, -1 ≤ tgs k ∧ tgs k < 100) : xI l g sx yX5_tagged wsX5_tagged ({ frames := 7, cells := 1, slots := 6, locals := 111 }) [.ref (ma), .int (iI (x))] (wMA g ma m1 m2 m3 la tp qa sa ta ua kinds ni hds bc tgs) (fun _ : Unit => wMA g ma m1 m2 m3 la tp qa sa ta ua kinds ni hds bc tgs) (fun v _ => (if ¬ (0 ≤ x ∧ x < 10) then 1 else if tgs x.toNat = -1 then 2 else 0 : Nat) = 0 ∧ v = iI (tgs x.toNat)) (fun E => xE [eIA, eNE] (if ¬ (0 ≤ x ∧ x < 10) then 1 else if tgs x.toNat = -1 then 2 else 0 : Nat) E) 1 6 := by
  refine x_of (Qc := fun A => va_Qi (fun v _ => (if ¬ (0 ≤ x ∧ x < 10) then 1 else if tgs x.toNat = -1 then 2 else 0 : Nat) = 0 ∧ v = iI (tgs x.toNat)) (mB g (fun _ : Unit => wMA g ma m1 m2 m3 la tp qa sa ta ua kinds ni hds bc tgs) A) A) (cc := cX5_tagged) (maxL := 2) (ret := (some .int)) (own := RX5) hst (by decide) rfl rfl (Nat.le_of_ble_eq_true rfl) ?_
  intro p e s m args below meth c A C X hr hl
  have hx1 := hx.1
  have hx2 := hx.2
  refine v_aload_n C dX5_tagged_0 rfl 0 rfl ?_
  refine v_iload_n C dX5_tagged_1 rfl 1 rfl ?_
  by_cases q_1 : 0 ≤ x ∧ x < 10
  rotate_left
  ·
    refine v_xinvV C X (As := [.int (iI (x))]) (q0 := 0) (ci := 5) (kX5_requireTag_bad l g sx hst (ma := ma) (m1 := m1) (m2 := m2) (m3 := m3) (la := la) (tp := tp) (qa := qa) (sa := sa) (ta := ta) (ua := ua) (kinds := kinds) (ni := ni) (hds := hds) (bc := bc) (tgs := tgs)  (x := x) ⟨by omega, by omega⟩ (by omega) trivial) (cwV 1 C.2.2.2.2.1 gX5_tagged_X5_requireTag rfl rfl rfl (by decide +kernel) ⟨Nat.le_of_ble_eq_true rfl, Nat.le_of_ble_eq_true rfl⟩) [0, 1, 2, 3] [] [0, 1, 2, 3] [] (fun _ => wMA g ma m1 m2 m3 la tp qa sa ta ua kinds ni hds bc tgs) rfl rfl rfl (fun _ => rfl) rfl rfl rfl rfl rfl rfl (Nat.le_of_ble_eq_true rfl) hl rfl (fun E h => h ▸ (xE1 (by (try simp only [Int.toNat_natCast]); rw [if_pos (by omega)]) rfl)) dX5_tagged_2 ⟨by decide, by decide⟩ ⟨by decide, by decide⟩ (fun _ hff => hff.elim)
  obtain ⟨x0, rfl⟩ : ∃ i : Nat, x = (i : Int) := ⟨(x).toNat, by omega⟩
  have hx0 : x0 < 10 := by omega
  refine v_invVV C (As := [.int (iI ((x0 : Nat) : Int))]) (q0 := 0) (ci := 5) (kX5_requireTag_ok l g (ma := ma) (m1 := m1) (m2 := m2) (m3 := m3) (la := la) (tp := tp) (qa := qa) (sa := sa) (ta := ta) (ua := ua) (kinds := kinds) (ni := ni) (hds := hds) (bc := bc) (tgs := tgs)  (i0 := x0) (by omega) trivial) (cwV 1 C.2.2.2.2.1 gX5_tagged_X5_requireTag rfl rfl rfl (by decide +kernel) ⟨Nat.le_of_ble_eq_true rfl, Nat.le_of_ble_eq_true rfl⟩) [0, 1, 2, 3] [] [0, 1, 2, 3] [] (fun _ => wMA g ma m1 m2 m3 la tp qa sa ta ua kinds ni hds bc tgs) rfl rfl rfl (fun _ => rfl) rfl rfl rfl rfl rfl (Nat.le_of_ble_eq_true rfl) dX5_tagged_2 ⟨by decide, by decide⟩ (fun _ h_4 => ?_)
  have ht9 := htg x0
  refine v_aload_n C dX5_tagged_5 rfl 0 rfl ?_
  refine v_get C 0 (kf := 4) rfl rfl (by decide) inX5_tagged_5 lkX5_tagged_21 rfl rfl dX5_tagged_6 ?_
  refine v_iload_n C dX5_tagged_9 rfl 1 rfl ?_
  refine v_iald C 3 (x0) rfl rfl (by omega) (by decide) dX5_tagged_10 ?_
  refine v_iconst C (z := -1) dX5_tagged_11 ?_
  refine v_icmp_ne C 25 dX5_tagged_12 (by decide) ⟨by omega, by omega⟩ (b31_lit _ rfl) (fun c_6 => ?_) (fun c_6 => ?_)
  ·
    refine v_aload_n C dX5_tagged_25 rfl 0 rfl ?_
    refine v_get C 0 (kf := 4) rfl rfl (by decide) inX5_tagged_5 lkX5_tagged_21 rfl rfl dX5_tagged_26 ?_
    refine v_iload_n C dX5_tagged_29 rfl 1 rfl ?_
    refine v_iald C 3 (x0) rfl rfl (by omega) (by decide) dX5_tagged_30 ?_
    exact v_xr (v_iret C hr hl () (by decide) (by decide) rfl ⟨(by (try simp only [Int.toNat_natCast]); rw [if_neg (by omega), if_neg (by omega)]), rfl⟩ dX5_tagged_31)
  ·
    exact v_throw C X 6 xG_NE rfl xaX5_tagged_135 xbX5_tagged_135 xcX5_tagged_135 hl dX5_tagged_15 dX5_tagged_18 dX5_tagged_19 dX5_tagged_21 dX5_tagged_24 (by decide) (Nat.le_of_ble_eq_true rfl) (by decide) (by decide) (by decide) (by decide) rfl (xE2 (by (try simp only [Int.toNat_natCast]); rw [if_neg (by omega), if_pos (by omega)]) rfl)
theorem inX5_parents_5 : ∀ w ∈ u_ws RX5 TX5 11, w ∈ wsX5_parents := by decide +kernel
theorem lkX5_parents_27 : Cond.fieldLink RX5 27 "MergeAtelier" "log" "LMergeAtelier$Log;" ∈ wsX5_parents := by decide +kernel
set_option maxHeartbeats 4000000 in
set_option maxRecDepth 100000 in
theorem kX5_parents (l : Launch) (g : vG) (sx : Nat → Nat) (hst : l.stackTraces = false) {ma m1 m2 m3 la tp qa sa ta ua : Nat} {kinds tgs : Nat → Int} {hds : Nat → Nat} {ni bc : Nat} {l1 l2 l3 l4 l5 l6 l7 l8 l9 : Nat} {deed item side picked qcnt An : Nat → Nat} {first second : Nat → Int} {cm : Nat} {x : Int} (hx : b31 x) (hcm : cm ≤ 100) (hf : ∀ k, -1 ≤ first k ∧ first k < 100) (hs : ∀ k, -1 ≤ second k ∧ second k < 100) : xI l g sx yX5_parents wsX5_parents ({ frames := 7, cells := 1, slots := 6, locals := 111 }) [.ref (ma), .int (iI (x))] (wMA g ma m1 m2 m3 la tp qa sa ta ua kinds ni hds bc tgs ++ wLog g la l1 l2 l3 l4 l5 l6 l7 l8 l9 deed first second item side picked qcnt An An cm) (fun _ : Unit => wMA g ma m1 m2 m3 la tp qa sa ta ua kinds ni hds bc tgs ++ wLog g la l1 l2 l3 l4 l5 l6 l7 l8 l9 deed first second item side picked qcnt An An cm) (fun v _ => (if ¬ (0 ≤ x ∧ x < (cm : Int)) then 1 else 0 : Nat) = 0 ∧ v = iI ((pcn (first x.toNat) (second x.toNat) : Nat) : Int)) (fun E => xE [eIO] (if ¬ (0 ≤ x ∧ x < (cm : Int)) then 1 else 0 : Nat) E) 1 6 := by
  refine x_of (Qc := fun A => va_Qi (fun v _ => (if ¬ (0 ≤ x ∧ x < (cm : Int)) then 1 else 0 : Nat) = 0 ∧ v = iI ((pcn (first x.toNat) (second x.toNat) : Nat) : Int)) (mB g (fun _ : Unit => wMA g ma m1 m2 m3 la tp qa sa ta ua kinds ni hds bc tgs ++ wLog g la l1 l2 l3 l4 l5 l6 l7 l8 l9 deed first second item side picked qcnt An An cm) A) A) (cc := cX5_parents) (maxL := 2) (ret := (some .int)) (own := RX5) hst (by decide) rfl rfl (Nat.le_of_ble_eq_true rfl) ?_
  intro p e s m args below meth c A C X hr hl
  have hx1 := hx.1
  have hx2 := hx.2
  refine v_aload_n C dX5_parents_0 rfl 0 rfl ?_
  refine v_iload_n C dX5_parents_1 rfl 1 rfl ?_
  by_cases q_1 : 0 ≤ x ∧ x < ((cm : Nat) : Int)
  rotate_left
  ·
    refine v_xinvV C X (As := [.int (iI (x))]) (q0 := 0) (ci := 5) (kX5_requireCommit_bad l g sx hst (ma := ma) (m1 := m1) (m2 := m2) (m3 := m3) (la := la) (tp := tp) (qa := qa) (sa := sa) (ta := ta) (ua := ua) (kinds := kinds) (ni := ni) (hds := hds) (bc := bc) (tgs := tgs) (l1 := l1) (l2 := l2) (l3 := l3) (l4 := l4) (l5 := l5) (l6 := l6) (l7 := l7) (l8 := l8) (l9 := l9) (deed := deed) (item := item) (side := side) (picked := picked) (qcnt := qcnt) (An := An) (first := first) (second := second) (cm := cm) (x := x) ⟨by omega, by omega⟩ (by omega) (by omega)) (cwV 1 C.2.2.2.2.1 gX5_parents_X5_requireCommit rfl rfl rfl (by decide +kernel) ⟨Nat.le_of_ble_eq_true rfl, Nat.le_of_ble_eq_true rfl⟩) [0, 1, 2, 3, 4, 5, 6, 7, 8, 9, 10, 11, 12, 13] [] [0, 1, 2, 3, 4, 5, 6, 7, 8, 9, 10, 11, 12, 13] [] (fun _ => wMA g ma m1 m2 m3 la tp qa sa ta ua kinds ni hds bc tgs ++ wLog g la l1 l2 l3 l4 l5 l6 l7 l8 l9 deed first second item side picked qcnt An An cm) rfl rfl rfl (fun _ => rfl) rfl rfl rfl rfl rfl rfl (Nat.le_of_ble_eq_true rfl) hl rfl (fun E h => h ▸ (xE1 (by (try simp only [Int.toNat_natCast]); rw [if_pos (by omega)]) rfl)) dX5_parents_2 ⟨by decide, by decide⟩ ⟨by decide, by decide⟩ (fun _ hff => hff.elim)
  obtain ⟨x0, rfl⟩ : ∃ i : Nat, x = (i : Int) := ⟨(x).toNat, by omega⟩
  have hx0 : x0 < cm := by omega
  refine v_invVV C (As := [.int (iI ((x0 : Nat) : Int))]) (q0 := 0) (ci := 5) (kX5_requireCommit_ok l g (ma := ma) (m1 := m1) (m2 := m2) (m3 := m3) (la := la) (tp := tp) (qa := qa) (sa := sa) (ta := ta) (ua := ua) (kinds := kinds) (ni := ni) (hds := hds) (bc := bc) (tgs := tgs) (l1 := l1) (l2 := l2) (l3 := l3) (l4 := l4) (l5 := l5) (l6 := l6) (l7 := l7) (l8 := l8) (l9 := l9) (deed := deed) (item := item) (side := side) (picked := picked) (qcnt := qcnt) (An := An) (first := first) (second := second) (cm := cm) (i0 := x0) (by omega) (by omega)) (cwV 1 C.2.2.2.2.1 gX5_parents_X5_requireCommit rfl rfl rfl (by decide +kernel) ⟨Nat.le_of_ble_eq_true rfl, Nat.le_of_ble_eq_true rfl⟩) [0, 1, 2, 3, 4, 5, 6, 7, 8, 9, 10, 11, 12, 13] [] [0, 1, 2, 3, 4, 5, 6, 7, 8, 9, 10, 11, 12, 13] [] (fun _ => wMA g ma m1 m2 m3 la tp qa sa ta ua kinds ni hds bc tgs ++ wLog g la l1 l2 l3 l4 l5 l6 l7 l8 l9 deed first second item side picked qcnt An An cm) rfl rfl rfl (fun _ => rfl) rfl rfl rfl rfl rfl (Nat.le_of_ble_eq_true rfl) dX5_parents_2 ⟨by decide, by decide⟩ (fun _ h_4 => ?_)
  refine v_aload_n C dX5_parents_5 rfl 0 rfl ?_
  refine v_get C 0 (kf := 5) rfl rfl (by decide) inX5_parents_5 lkX5_parents_27 rfl rfl dX5_parents_6 ?_
  refine v_iload_n C dX5_parents_9 rfl 1 rfl ?_
  refine v_invVI C (As := [.int (iI ((x0 : Nat) : Int))]) (q0 := 0) (ci := 0) (kX0_parentCount l g (la := la) (l1 := l1) (l2 := l2) (l3 := l3) (l4 := l4) (l5 := l5) (l6 := l6) (l7 := l7) (l8 := l8) (l9 := l9) (deed := deed) (item := item) (side := side) (picked := picked) (qcnt := qcnt) (An := An) (first := first) (second := second) (cm := cm) (c0 := x0) (by omega) hf hs) (cwV 1 C.2.2.2.2.1 gX5_parents_X0_parentCount rfl rfl rfl (by decide +kernel) ⟨Nat.le_of_ble_eq_true rfl, Nat.le_of_ble_eq_true rfl⟩) [4, 5, 6, 7, 8, 9, 10, 11, 12, 13] [0, 1, 2, 3] [0, 1, 2, 3, 4, 5, 6, 7, 8, 9, 10, 11, 12, 13] [] (fun _ => wMA g ma m1 m2 m3 la tp qa sa ta ua kinds ni hds bc tgs ++ wLog g la l1 l2 l3 l4 l5 l6 l7 l8 l9 deed first second item side picked qcnt An An cm) rfl rfl rfl (fun _ => rfl) rfl rfl rfl rfl rfl (Nat.le_of_ble_eq_true rfl) dX5_parents_10 ⟨by decide, by decide⟩ (fun r_7 _ h_6 => ?_)
  subst h_6
  exact v_xr (v_iret C hr hl () (by decide) (by decide) rfl ⟨(by (try simp only [Int.toNat_natCast]); rw [if_neg (by omega)]), rfl⟩ dX5_parents_13)
theorem inX5_isAncestor_5 : ∀ w ∈ u_ws RX5 TX5 11, w ∈ wsX5_isAncestor := by decide +kernel
theorem lkX5_isAncestor_27 : Cond.fieldLink RX5 27 "MergeAtelier" "log" "LMergeAtelier$Log;" ∈ wsX5_isAncestor := by decide +kernel
set_option maxHeartbeats 4000000 in
set_option maxRecDepth 100000 in
theorem kX5_isAncestor (l : Launch) (g : vG) (sx : Nat → Nat) (hst : l.stackTraces = false) {ma m1 m2 m3 la tp qa sa ta ua : Nat} {kinds tgs : Nat → Int} {hds : Nat → Nat} {ni bc : Nat} {l1 l2 l3 l4 l5 l6 l7 l8 l9 : Nat} {deed item side picked qcnt An : Nat → Nat} {first second : Nat → Int} {cm : Nat} {x y : Int} (hx : b31 x) (hy : b31 y) (hcm : cm ≤ 100) : xI l g sx yX5_isAncestor wsX5_isAncestor ({ frames := 7, cells := 1, slots := 6, locals := 111 }) [.ref (ma), .int (iI (x)), .int (iI (y))] (wMA g ma m1 m2 m3 la tp qa sa ta ua kinds ni hds bc tgs ++ wLog g la l1 l2 l3 l4 l5 l6 l7 l8 l9 deed first second item side picked qcnt An An cm) (fun _ : Unit => wMA g ma m1 m2 m3 la tp qa sa ta ua kinds ni hds bc tgs ++ wLog g la l1 l2 l3 l4 l5 l6 l7 l8 l9 deed first second item side picked qcnt An An cm) (fun v _ => (if ¬ (0 ≤ x ∧ x < (cm : Int) ∧ 0 ≤ y ∧ y < (cm : Int)) then 1 else 0 : Nat) = 0 ∧ v = iI (bZ ((An y.toNat).testBit x.toNat))) (fun E => xE [eIO] (if ¬ (0 ≤ x ∧ x < (cm : Int) ∧ 0 ≤ y ∧ y < (cm : Int)) then 1 else 0 : Nat) E) 1 6 := by
  refine x_of (Qc := fun A => va_Qi (fun v _ => (if ¬ (0 ≤ x ∧ x < (cm : Int) ∧ 0 ≤ y ∧ y < (cm : Int)) then 1 else 0 : Nat) = 0 ∧ v = iI (bZ ((An y.toNat).testBit x.toNat))) (mB g (fun _ : Unit => wMA g ma m1 m2 m3 la tp qa sa ta ua kinds ni hds bc tgs ++ wLog g la l1 l2 l3 l4 l5 l6 l7 l8 l9 deed first second item side picked qcnt An An cm) A) A) (cc := cX5_isAncestor) (maxL := 3) (ret := (some .boolean)) (own := RX5) hst (by decide) rfl rfl (Nat.le_of_ble_eq_true rfl) ?_
  intro p e s m args below meth c A C X hr hl
  have hx1 := hx.1
  have hx2 := hx.2
  have hy1 := hy.1
  have hy2 := hy.2
  refine v_aload_n C dX5_isAncestor_0 rfl 0 rfl ?_
  refine v_iload_n C dX5_isAncestor_1 rfl 1 rfl ?_
  by_cases q_1 : 0 ≤ x ∧ x < ((cm : Nat) : Int)
  rotate_left
  ·
    refine v_xinvV C X (As := [.int (iI (x))]) (q0 := 0) (ci := 5) (kX5_requireCommit_bad l g sx hst (ma := ma) (m1 := m1) (m2 := m2) (m3 := m3) (la := la) (tp := tp) (qa := qa) (sa := sa) (ta := ta) (ua := ua) (kinds := kinds) (ni := ni) (hds := hds) (bc := bc) (tgs := tgs) (l1 := l1) (l2 := l2) (l3 := l3) (l4 := l4) (l5 := l5) (l6 := l6) (l7 := l7) (l8 := l8) (l9 := l9) (deed := deed) (item := item) (side := side) (picked := picked) (qcnt := qcnt) (An := An) (first := first) (second := second) (cm := cm) (x := x) ⟨by omega, by omega⟩ (by omega) (by omega)) (cwV 1 C.2.2.2.2.1 gX5_isAncestor_X5_requireCommit rfl rfl rfl (by decide +kernel) ⟨Nat.le_of_ble_eq_true rfl, Nat.le_of_ble_eq_true rfl⟩) [0, 1, 2, 3, 4, 5, 6, 7, 8, 9, 10, 11, 12, 13] [] [0, 1, 2, 3, 4, 5, 6, 7, 8, 9, 10, 11, 12, 13] [] (fun _ => wMA g ma m1 m2 m3 la tp qa sa ta ua kinds ni hds bc tgs ++ wLog g la l1 l2 l3 l4 l5 l6 l7 l8 l9 deed first second item side picked qcnt An An cm) rfl rfl rfl (fun _ => rfl) rfl rfl rfl rfl rfl rfl (Nat.le_of_ble_eq_true rfl) hl rfl (fun E h => h ▸ (xE1 (by (try simp only [Int.toNat_natCast]); rw [if_pos (by omega)]) rfl)) dX5_isAncestor_2 ⟨by decide, by decide⟩ ⟨by decide, by decide⟩ (fun _ hff => hff.elim)
  obtain ⟨x0, rfl⟩ : ∃ i : Nat, x = (i : Int) := ⟨(x).toNat, by omega⟩
  have hx0 : x0 < cm := by omega
  refine v_invVV C (As := [.int (iI ((x0 : Nat) : Int))]) (q0 := 0) (ci := 5) (kX5_requireCommit_ok l g (ma := ma) (m1 := m1) (m2 := m2) (m3 := m3) (la := la) (tp := tp) (qa := qa) (sa := sa) (ta := ta) (ua := ua) (kinds := kinds) (ni := ni) (hds := hds) (bc := bc) (tgs := tgs) (l1 := l1) (l2 := l2) (l3 := l3) (l4 := l4) (l5 := l5) (l6 := l6) (l7 := l7) (l8 := l8) (l9 := l9) (deed := deed) (item := item) (side := side) (picked := picked) (qcnt := qcnt) (An := An) (first := first) (second := second) (cm := cm) (i0 := x0) (by omega) (by omega)) (cwV 1 C.2.2.2.2.1 gX5_isAncestor_X5_requireCommit rfl rfl rfl (by decide +kernel) ⟨Nat.le_of_ble_eq_true rfl, Nat.le_of_ble_eq_true rfl⟩) [0, 1, 2, 3, 4, 5, 6, 7, 8, 9, 10, 11, 12, 13] [] [0, 1, 2, 3, 4, 5, 6, 7, 8, 9, 10, 11, 12, 13] [] (fun _ => wMA g ma m1 m2 m3 la tp qa sa ta ua kinds ni hds bc tgs ++ wLog g la l1 l2 l3 l4 l5 l6 l7 l8 l9 deed first second item side picked qcnt An An cm) rfl rfl rfl (fun _ => rfl) rfl rfl rfl rfl rfl (Nat.le_of_ble_eq_true rfl) dX5_isAncestor_2 ⟨by decide, by decide⟩ (fun _ h_4 => ?_)
  refine v_aload_n C dX5_isAncestor_5 rfl 0 rfl ?_
  refine v_iload_n C dX5_isAncestor_6 rfl 2 rfl ?_
  by_cases q_6 : 0 ≤ y ∧ y < ((cm : Nat) : Int)
  rotate_left
  ·
    refine v_xinvV C X (As := [.int (iI (y))]) (q0 := 0) (ci := 5) (kX5_requireCommit_bad l g sx hst (ma := ma) (m1 := m1) (m2 := m2) (m3 := m3) (la := la) (tp := tp) (qa := qa) (sa := sa) (ta := ta) (ua := ua) (kinds := kinds) (ni := ni) (hds := hds) (bc := bc) (tgs := tgs) (l1 := l1) (l2 := l2) (l3 := l3) (l4 := l4) (l5 := l5) (l6 := l6) (l7 := l7) (l8 := l8) (l9 := l9) (deed := deed) (item := item) (side := side) (picked := picked) (qcnt := qcnt) (An := An) (first := first) (second := second) (cm := cm) (x := y) ⟨by omega, by omega⟩ (by omega) (by omega)) (cwV 1 C.2.2.2.2.1 gX5_isAncestor_X5_requireCommit rfl rfl rfl (by decide +kernel) ⟨Nat.le_of_ble_eq_true rfl, Nat.le_of_ble_eq_true rfl⟩) [0, 1, 2, 3, 4, 5, 6, 7, 8, 9, 10, 11, 12, 13] [] [0, 1, 2, 3, 4, 5, 6, 7, 8, 9, 10, 11, 12, 13] [] (fun _ => wMA g ma m1 m2 m3 la tp qa sa ta ua kinds ni hds bc tgs ++ wLog g la l1 l2 l3 l4 l5 l6 l7 l8 l9 deed first second item side picked qcnt An An cm) rfl rfl rfl (fun _ => rfl) rfl rfl rfl rfl rfl rfl (Nat.le_of_ble_eq_true rfl) hl rfl (fun E h => h ▸ (xE1 (by (try simp only [Int.toNat_natCast]); rw [if_pos (by omega)]) rfl)) dX5_isAncestor_7 ⟨by decide, by decide⟩ ⟨by decide, by decide⟩ (fun _ hff => hff.elim)
  obtain ⟨y0, rfl⟩ : ∃ i : Nat, y = (i : Int) := ⟨(y).toNat, by omega⟩
  have hy0 : y0 < cm := by omega
  refine v_invVV C (As := [.int (iI ((y0 : Nat) : Int))]) (q0 := 0) (ci := 5) (kX5_requireCommit_ok l g (ma := ma) (m1 := m1) (m2 := m2) (m3 := m3) (la := la) (tp := tp) (qa := qa) (sa := sa) (ta := ta) (ua := ua) (kinds := kinds) (ni := ni) (hds := hds) (bc := bc) (tgs := tgs) (l1 := l1) (l2 := l2) (l3 := l3) (l4 := l4) (l5 := l5) (l6 := l6) (l7 := l7) (l8 := l8) (l9 := l9) (deed := deed) (item := item) (side := side) (picked := picked) (qcnt := qcnt) (An := An) (first := first) (second := second) (cm := cm) (i0 := y0) (by omega) (by omega)) (cwV 1 C.2.2.2.2.1 gX5_isAncestor_X5_requireCommit rfl rfl rfl (by decide +kernel) ⟨Nat.le_of_ble_eq_true rfl, Nat.le_of_ble_eq_true rfl⟩) [0, 1, 2, 3, 4, 5, 6, 7, 8, 9, 10, 11, 12, 13] [] [0, 1, 2, 3, 4, 5, 6, 7, 8, 9, 10, 11, 12, 13] [] (fun _ => wMA g ma m1 m2 m3 la tp qa sa ta ua kinds ni hds bc tgs ++ wLog g la l1 l2 l3 l4 l5 l6 l7 l8 l9 deed first second item side picked qcnt An An cm) rfl rfl rfl (fun _ => rfl) rfl rfl rfl rfl rfl (Nat.le_of_ble_eq_true rfl) dX5_isAncestor_7 ⟨by decide, by decide⟩ (fun _ h_9 => ?_)
  refine v_aload_n C dX5_isAncestor_10 rfl 0 rfl ?_
  refine v_get C 0 (kf := 5) rfl rfl (by decide) inX5_isAncestor_5 lkX5_isAncestor_27 rfl rfl dX5_isAncestor_11 ?_
  refine v_iload_n C dX5_isAncestor_14 rfl 2 rfl ?_
  refine v_iload_n C dX5_isAncestor_15 rfl 1 rfl ?_
  refine v_invVI C (As := [.int (iI ((y0 : Nat) : Int)), .int (iI ((x0 : Nat) : Int))]) (q0 := 0) (ci := 0) (kX0_descends l g (la := la) (l1 := l1) (l2 := l2) (l3 := l3) (l4 := l4) (l5 := l5) (l6 := l6) (l7 := l7) (l8 := l8) (l9 := l9) (deed := deed) (item := item) (side := side) (picked := picked) (qcnt := qcnt) (An := An) (first := first) (second := second) (cm := cm) (c0 := y0) (k0 := x0) (by omega) (by omega)) (cwV 2 C.2.2.2.2.1 gX5_isAncestor_X0_descends rfl rfl rfl (by decide +kernel) ⟨Nat.le_of_ble_eq_true rfl, Nat.le_of_ble_eq_true rfl⟩) [4, 5, 6, 7, 8, 9, 10, 11, 12, 13] [0, 1, 2, 3] [0, 1, 2, 3, 4, 5, 6, 7, 8, 9, 10, 11, 12, 13] [] (fun _ => wMA g ma m1 m2 m3 la tp qa sa ta ua kinds ni hds bc tgs ++ wLog g la l1 l2 l3 l4 l5 l6 l7 l8 l9 deed first second item side picked qcnt An An cm) rfl rfl rfl (fun _ => rfl) rfl rfl rfl rfl rfl (Nat.le_of_ble_eq_true rfl) dX5_isAncestor_16 ⟨by decide, by decide⟩ (fun r_12 _ h_11 => ?_)
  subst h_11
  exact v_xr (v_zret C hr hl () (bZ_nar _) (by decide) (by decide) rfl ⟨(by (try simp only [Int.toNat_natCast]); rw [if_neg (by omega)]), rfl⟩ dX5_isAncestor_19)
theorem inX5_base_5 : ∀ w ∈ u_ws RX5 TX5 11, w ∈ wsX5_base := by decide +kernel
theorem lkX5_base_27 : Cond.fieldLink RX5 27 "MergeAtelier" "log" "LMergeAtelier$Log;" ∈ wsX5_base := by decide +kernel
set_option maxHeartbeats 4000000 in
set_option maxRecDepth 100000 in
theorem kX5_base (l : Launch) (g : vG) (sx : Nat → Nat) (hst : l.stackTraces = false) {ma m1 m2 m3 la tp qa sa ta ua : Nat} {kinds tgs : Nat → Int} {hds : Nat → Nat} {ni bc : Nat} {l1 l2 l3 l4 l5 l6 l7 l8 l9 : Nat} {deed item side picked qcnt An : Nat → Nat} {first second : Nat → Int} {cm : Nat} {x y : Int} (hx : b31 x) (hy : b31 y) (hcm : cm ≤ 100) : xI l g sx yX5_base wsX5_base ({ frames := 7, cells := 1, slots := 6, locals := 111 }) [.ref (ma), .int (iI (x)), .int (iI (y))] (wMA g ma m1 m2 m3 la tp qa sa ta ua kinds ni hds bc tgs ++ wLog g la l1 l2 l3 l4 l5 l6 l7 l8 l9 deed first second item side picked qcnt An An cm) (fun _ : Unit => wMA g ma m1 m2 m3 la tp qa sa ta ua kinds ni hds bc tgs ++ wLog g la l1 l2 l3 l4 l5 l6 l7 l8 l9 deed first second item side picked qcnt An An cm) (fun v _ => (if ¬ (0 ≤ x ∧ x < (cm : Int) ∧ 0 ≤ y ∧ y < (cm : Int)) then 1 else 0 : Nat) = 0 ∧ v = iI ((gsh (An x.toNat &&& An y.toNat) (min x.toNat y.toNat) : Nat) : Int)) (fun E => xE [eIO] (if ¬ (0 ≤ x ∧ x < (cm : Int) ∧ 0 ≤ y ∧ y < (cm : Int)) then 1 else 0 : Nat) E) 1 6 := by
  refine x_of (Qc := fun A => va_Qi (fun v _ => (if ¬ (0 ≤ x ∧ x < (cm : Int) ∧ 0 ≤ y ∧ y < (cm : Int)) then 1 else 0 : Nat) = 0 ∧ v = iI ((gsh (An x.toNat &&& An y.toNat) (min x.toNat y.toNat) : Nat) : Int)) (mB g (fun _ : Unit => wMA g ma m1 m2 m3 la tp qa sa ta ua kinds ni hds bc tgs ++ wLog g la l1 l2 l3 l4 l5 l6 l7 l8 l9 deed first second item side picked qcnt An An cm) A) A) (cc := cX5_base) (maxL := 3) (ret := (some .int)) (own := RX5) hst (by decide) rfl rfl (Nat.le_of_ble_eq_true rfl) ?_
  intro p e s m args below meth c A C X hr hl
  have hx1 := hx.1
  have hx2 := hx.2
  have hy1 := hy.1
  have hy2 := hy.2
  refine v_aload_n C dX5_base_0 rfl 0 rfl ?_
  refine v_iload_n C dX5_base_1 rfl 1 rfl ?_
  by_cases q_1 : 0 ≤ x ∧ x < ((cm : Nat) : Int)
  rotate_left
  ·
    refine v_xinvV C X (As := [.int (iI (x))]) (q0 := 0) (ci := 5) (kX5_requireCommit_bad l g sx hst (ma := ma) (m1 := m1) (m2 := m2) (m3 := m3) (la := la) (tp := tp) (qa := qa) (sa := sa) (ta := ta) (ua := ua) (kinds := kinds) (ni := ni) (hds := hds) (bc := bc) (tgs := tgs) (l1 := l1) (l2 := l2) (l3 := l3) (l4 := l4) (l5 := l5) (l6 := l6) (l7 := l7) (l8 := l8) (l9 := l9) (deed := deed) (item := item) (side := side) (picked := picked) (qcnt := qcnt) (An := An) (first := first) (second := second) (cm := cm) (x := x) ⟨by omega, by omega⟩ (by omega) (by omega)) (cwV 1 C.2.2.2.2.1 gX5_base_X5_requireCommit rfl rfl rfl (by decide +kernel) ⟨Nat.le_of_ble_eq_true rfl, Nat.le_of_ble_eq_true rfl⟩) [0, 1, 2, 3, 4, 5, 6, 7, 8, 9, 10, 11, 12, 13] [] [0, 1, 2, 3, 4, 5, 6, 7, 8, 9, 10, 11, 12, 13] [] (fun _ => wMA g ma m1 m2 m3 la tp qa sa ta ua kinds ni hds bc tgs ++ wLog g la l1 l2 l3 l4 l5 l6 l7 l8 l9 deed first second item side picked qcnt An An cm) rfl rfl rfl (fun _ => rfl) rfl rfl rfl rfl rfl rfl (Nat.le_of_ble_eq_true rfl) hl rfl (fun E h => h ▸ (xE1 (by (try simp only [Int.toNat_natCast]); rw [if_pos (by omega)]) rfl)) dX5_base_2 ⟨by decide, by decide⟩ ⟨by decide, by decide⟩ (fun _ hff => hff.elim)
  obtain ⟨x0, rfl⟩ : ∃ i : Nat, x = (i : Int) := ⟨(x).toNat, by omega⟩
  have hx0 : x0 < cm := by omega
  refine v_invVV C (As := [.int (iI ((x0 : Nat) : Int))]) (q0 := 0) (ci := 5) (kX5_requireCommit_ok l g (ma := ma) (m1 := m1) (m2 := m2) (m3 := m3) (la := la) (tp := tp) (qa := qa) (sa := sa) (ta := ta) (ua := ua) (kinds := kinds) (ni := ni) (hds := hds) (bc := bc) (tgs := tgs) (l1 := l1) (l2 := l2) (l3 := l3) (l4 := l4) (l5 := l5) (l6 := l6) (l7 := l7) (l8 := l8) (l9 := l9) (deed := deed) (item := item) (side := side) (picked := picked) (qcnt := qcnt) (An := An) (first := first) (second := second) (cm := cm) (i0 := x0) (by omega) (by omega)) (cwV 1 C.2.2.2.2.1 gX5_base_X5_requireCommit rfl rfl rfl (by decide +kernel) ⟨Nat.le_of_ble_eq_true rfl, Nat.le_of_ble_eq_true rfl⟩) [0, 1, 2, 3, 4, 5, 6, 7, 8, 9, 10, 11, 12, 13] [] [0, 1, 2, 3, 4, 5, 6, 7, 8, 9, 10, 11, 12, 13] [] (fun _ => wMA g ma m1 m2 m3 la tp qa sa ta ua kinds ni hds bc tgs ++ wLog g la l1 l2 l3 l4 l5 l6 l7 l8 l9 deed first second item side picked qcnt An An cm) rfl rfl rfl (fun _ => rfl) rfl rfl rfl rfl rfl (Nat.le_of_ble_eq_true rfl) dX5_base_2 ⟨by decide, by decide⟩ (fun _ h_4 => ?_)
  refine v_aload_n C dX5_base_5 rfl 0 rfl ?_
  refine v_iload_n C dX5_base_6 rfl 2 rfl ?_
  by_cases q_6 : 0 ≤ y ∧ y < ((cm : Nat) : Int)
  rotate_left
  ·
    refine v_xinvV C X (As := [.int (iI (y))]) (q0 := 0) (ci := 5) (kX5_requireCommit_bad l g sx hst (ma := ma) (m1 := m1) (m2 := m2) (m3 := m3) (la := la) (tp := tp) (qa := qa) (sa := sa) (ta := ta) (ua := ua) (kinds := kinds) (ni := ni) (hds := hds) (bc := bc) (tgs := tgs) (l1 := l1) (l2 := l2) (l3 := l3) (l4 := l4) (l5 := l5) (l6 := l6) (l7 := l7) (l8 := l8) (l9 := l9) (deed := deed) (item := item) (side := side) (picked := picked) (qcnt := qcnt) (An := An) (first := first) (second := second) (cm := cm) (x := y) ⟨by omega, by omega⟩ (by omega) (by omega)) (cwV 1 C.2.2.2.2.1 gX5_base_X5_requireCommit rfl rfl rfl (by decide +kernel) ⟨Nat.le_of_ble_eq_true rfl, Nat.le_of_ble_eq_true rfl⟩) [0, 1, 2, 3, 4, 5, 6, 7, 8, 9, 10, 11, 12, 13] [] [0, 1, 2, 3, 4, 5, 6, 7, 8, 9, 10, 11, 12, 13] [] (fun _ => wMA g ma m1 m2 m3 la tp qa sa ta ua kinds ni hds bc tgs ++ wLog g la l1 l2 l3 l4 l5 l6 l7 l8 l9 deed first second item side picked qcnt An An cm) rfl rfl rfl (fun _ => rfl) rfl rfl rfl rfl rfl rfl (Nat.le_of_ble_eq_true rfl) hl rfl (fun E h => h ▸ (xE1 (by (try simp only [Int.toNat_natCast]); rw [if_pos (by omega)]) rfl)) dX5_base_7 ⟨by decide, by decide⟩ ⟨by decide, by decide⟩ (fun _ hff => hff.elim)
  obtain ⟨y0, rfl⟩ : ∃ i : Nat, y = (i : Int) := ⟨(y).toNat, by omega⟩
  have hy0 : y0 < cm := by omega
  refine v_invVV C (As := [.int (iI ((y0 : Nat) : Int))]) (q0 := 0) (ci := 5) (kX5_requireCommit_ok l g (ma := ma) (m1 := m1) (m2 := m2) (m3 := m3) (la := la) (tp := tp) (qa := qa) (sa := sa) (ta := ta) (ua := ua) (kinds := kinds) (ni := ni) (hds := hds) (bc := bc) (tgs := tgs) (l1 := l1) (l2 := l2) (l3 := l3) (l4 := l4) (l5 := l5) (l6 := l6) (l7 := l7) (l8 := l8) (l9 := l9) (deed := deed) (item := item) (side := side) (picked := picked) (qcnt := qcnt) (An := An) (first := first) (second := second) (cm := cm) (i0 := y0) (by omega) (by omega)) (cwV 1 C.2.2.2.2.1 gX5_base_X5_requireCommit rfl rfl rfl (by decide +kernel) ⟨Nat.le_of_ble_eq_true rfl, Nat.le_of_ble_eq_true rfl⟩) [0, 1, 2, 3, 4, 5, 6, 7, 8, 9, 10, 11, 12, 13] [] [0, 1, 2, 3, 4, 5, 6, 7, 8, 9, 10, 11, 12, 13] [] (fun _ => wMA g ma m1 m2 m3 la tp qa sa ta ua kinds ni hds bc tgs ++ wLog g la l1 l2 l3 l4 l5 l6 l7 l8 l9 deed first second item side picked qcnt An An cm) rfl rfl rfl (fun _ => rfl) rfl rfl rfl rfl rfl (Nat.le_of_ble_eq_true rfl) dX5_base_7 ⟨by decide, by decide⟩ (fun _ h_9 => ?_)
  refine v_aload_n C dX5_base_10 rfl 0 rfl ?_
  refine v_get C 0 (kf := 5) rfl rfl (by decide) inX5_base_5 lkX5_base_27 rfl rfl dX5_base_11 ?_
  refine v_iload_n C dX5_base_14 rfl 1 rfl ?_
  refine v_iload_n C dX5_base_15 rfl 2 rfl ?_
  refine v_invVI C (As := [.int (iI ((x0 : Nat) : Int)), .int (iI ((y0 : Nat) : Int))]) (q0 := 0) (ci := 0) (kX0_greatestShared l g (la := la) (l1 := l1) (l2 := l2) (l3 := l3) (l4 := l4) (l5 := l5) (l6 := l6) (l7 := l7) (l8 := l8) (l9 := l9) (deed := deed) (item := item) (side := side) (picked := picked) (qcnt := qcnt) (An := An) (first := first) (second := second) (cm := cm) (c0 := x0) (c1 := y0) (by omega) (by omega)) (cwV 2 C.2.2.2.2.1 gX5_base_X0_greatestShared rfl rfl rfl (by decide +kernel) ⟨Nat.le_of_ble_eq_true rfl, Nat.le_of_ble_eq_true rfl⟩) [4, 5, 6, 7, 8, 9, 10, 11, 12, 13] [0, 1, 2, 3] [0, 1, 2, 3, 4, 5, 6, 7, 8, 9, 10, 11, 12, 13] [] (fun _ => wMA g ma m1 m2 m3 la tp qa sa ta ua kinds ni hds bc tgs ++ wLog g la l1 l2 l3 l4 l5 l6 l7 l8 l9 deed first second item side picked qcnt An An cm) rfl rfl rfl (fun _ => rfl) rfl rfl rfl rfl rfl (Nat.le_of_ble_eq_true rfl) dX5_base_16 ⟨by decide, by decide⟩ (fun r_12 _ h_11 => ?_)
  subst h_11
  exact v_xr (v_iret C hr hl () (by decide) (by decide) rfl ⟨(by (try simp only [Int.toNat_natCast]); rw [if_neg (by omega)]), rfl⟩ dX5_base_19)
theorem xaX5_parentAt_135 : Cond.classLink RX5 135 eNE ∈ wsX5_parentAt := by decide +kernel
theorem xbX5_parentAt_135 : Cond.initialized eNE ∈ wsX5_parentAt := by decide +kernel
theorem xcX5_parentAt_135 : ∀ w ∈ (vx_atS RX5 139 eNE exN).filter goodWord, w ∈ wsX5_parentAt := by decide +kernel
theorem inX5_parentAt_5 : ∀ w ∈ u_ws RX5 TX5 11, w ∈ wsX5_parentAt := by decide +kernel
theorem lkX5_parentAt_27 : Cond.fieldLink RX5 27 "MergeAtelier" "log" "LMergeAtelier$Log;" ∈ wsX5_parentAt := by decide +kernel
theorem inX5_parentAt_0 : ∀ w ∈ u_ws RX0 TX0 10, w ∈ wsX5_parentAt := by decide +kernel
theorem lkX5_parentAt_151 : Cond.fieldLink RX5 151 "MergeAtelier$Log" "second" "[I" ∈ wsX5_parentAt := by decide +kernel
theorem lkX5_parentAt_148 : Cond.fieldLink RX5 148 "MergeAtelier$Log" "first" "[I" ∈ wsX5_parentAt := by decide +kernel
set_option maxHeartbeats 4000000 in
set_option maxRecDepth 100000 in
theorem kX5_parentAt (l : Launch) (g : vG) (sx : Nat → Nat) (hst : l.stackTraces = false) {ma m1 m2 m3 la tp qa sa ta ua : Nat} {kinds tgs : Nat → Int} {hds : Nat → Nat} {ni bc : Nat} {l1 l2 l3 l4 l5 l6 l7 l8 l9 : Nat} {deed item side picked qcnt An : Nat → Nat} {first second : Nat → Int} {cm : Nat} {x y : Int} (hx : b31 x) (hy : b31 y) (hcm : cm ≤ 100) (hf : ∀ k, -1 ≤ first k ∧ first k < 100) (hs : ∀ k, -1 ≤ second k ∧ second k < 100) : xI l g sx yX5_parentAt wsX5_parentAt ({ frames := 7, cells := 1, slots := 6, locals := 111 }) [.ref (ma), .int (iI (x)), .int (iI (y))] (wMA g ma m1 m2 m3 la tp qa sa ta ua kinds ni hds bc tgs ++ wLog g la l1 l2 l3 l4 l5 l6 l7 l8 l9 deed first second item side picked qcnt An An cm) (fun _ : Unit => wMA g ma m1 m2 m3 la tp qa sa ta ua kinds ni hds bc tgs ++ wLog g la l1 l2 l3 l4 l5 l6 l7 l8 l9 deed first second item side picked qcnt An An cm) (fun v _ => (if ¬ (0 ≤ x ∧ x < (cm : Int)) then 1 else if ¬ (0 ≤ y ∧ y < ((pcn (first x.toNat) (second x.toNat) : Nat) : Int)) then 2 else 0 : Nat) = 0 ∧ v = iI (if y = 0 then first x.toNat else second x.toNat)) (fun E => xE [eIO, eNE] (if ¬ (0 ≤ x ∧ x < (cm : Int)) then 1 else if ¬ (0 ≤ y ∧ y < ((pcn (first x.toNat) (second x.toNat) : Nat) : Int)) then 2 else 0 : Nat) E) 1 6 := by
  refine x_of (Qc := fun A => va_Qi (fun v _ => (if ¬ (0 ≤ x ∧ x < (cm : Int)) then 1 else if ¬ (0 ≤ y ∧ y < ((pcn (first x.toNat) (second x.toNat) : Nat) : Int)) then 2 else 0 : Nat) = 0 ∧ v = iI (if y = 0 then first x.toNat else second x.toNat)) (mB g (fun _ : Unit => wMA g ma m1 m2 m3 la tp qa sa ta ua kinds ni hds bc tgs ++ wLog g la l1 l2 l3 l4 l5 l6 l7 l8 l9 deed first second item side picked qcnt An An cm) A) A) (cc := cX5_parentAt) (maxL := 3) (ret := (some .int)) (own := RX5) hst (by decide) rfl rfl (Nat.le_of_ble_eq_true rfl) ?_
  intro p e s m args below meth c A C X hr hl
  have hx1 := hx.1
  have hx2 := hx.2
  have hy1 := hy.1
  have hy2 := hy.2
  refine v_aload_n C dX5_parentAt_0 rfl 0 rfl ?_
  refine v_iload_n C dX5_parentAt_1 rfl 1 rfl ?_
  by_cases q_1 : 0 ≤ x ∧ x < ((cm : Nat) : Int)
  rotate_left
  ·
    refine v_xinvV C X (As := [.int (iI (x))]) (q0 := 0) (ci := 5) (kX5_requireCommit_bad l g sx hst (ma := ma) (m1 := m1) (m2 := m2) (m3 := m3) (la := la) (tp := tp) (qa := qa) (sa := sa) (ta := ta) (ua := ua) (kinds := kinds) (ni := ni) (hds := hds) (bc := bc) (tgs := tgs) (l1 := l1) (l2 := l2) (l3 := l3) (l4 := l4) (l5 := l5) (l6 := l6) (l7 := l7) (l8 := l8) (l9 := l9) (deed := deed) (item := item) (side := side) (picked := picked) (qcnt := qcnt) (An := An) (first := first) (second := second) (cm := cm) (x := x) ⟨by omega, by omega⟩ (by omega) (by omega)) (cwV 1 C.2.2.2.2.1 gX5_parentAt_X5_requireCommit rfl rfl rfl (by decide +kernel) ⟨Nat.le_of_ble_eq_true rfl, Nat.le_of_ble_eq_true rfl⟩) [0, 1, 2, 3, 4, 5, 6, 7, 8, 9, 10, 11, 12, 13] [] [0, 1, 2, 3, 4, 5, 6, 7, 8, 9, 10, 11, 12, 13] [] (fun _ => wMA g ma m1 m2 m3 la tp qa sa ta ua kinds ni hds bc tgs ++ wLog g la l1 l2 l3 l4 l5 l6 l7 l8 l9 deed first second item side picked qcnt An An cm) rfl rfl rfl (fun _ => rfl) rfl rfl rfl rfl rfl rfl (Nat.le_of_ble_eq_true rfl) hl rfl (fun E h => h ▸ (xE1 (by (try simp only [Int.toNat_natCast]); rw [if_pos (by omega)]) rfl)) dX5_parentAt_2 ⟨by decide, by decide⟩ ⟨by decide, by decide⟩ (fun _ hff => hff.elim)
  obtain ⟨x0, rfl⟩ : ∃ i : Nat, x = (i : Int) := ⟨(x).toNat, by omega⟩
  have hx0 : x0 < cm := by omega
  refine v_invVV C (As := [.int (iI ((x0 : Nat) : Int))]) (q0 := 0) (ci := 5) (kX5_requireCommit_ok l g (ma := ma) (m1 := m1) (m2 := m2) (m3 := m3) (la := la) (tp := tp) (qa := qa) (sa := sa) (ta := ta) (ua := ua) (kinds := kinds) (ni := ni) (hds := hds) (bc := bc) (tgs := tgs) (l1 := l1) (l2 := l2) (l3 := l3) (l4 := l4) (l5 := l5) (l6 := l6) (l7 := l7) (l8 := l8) (l9 := l9) (deed := deed) (item := item) (side := side) (picked := picked) (qcnt := qcnt) (An := An) (first := first) (second := second) (cm := cm) (i0 := x0) (by omega) (by omega)) (cwV 1 C.2.2.2.2.1 gX5_parentAt_X5_requireCommit rfl rfl rfl (by decide +kernel) ⟨Nat.le_of_ble_eq_true rfl, Nat.le_of_ble_eq_true rfl⟩) [0, 1, 2, 3, 4, 5, 6, 7, 8, 9, 10, 11, 12, 13] [] [0, 1, 2, 3, 4, 5, 6, 7, 8, 9, 10, 11, 12, 13] [] (fun _ => wMA g ma m1 m2 m3 la tp qa sa ta ua kinds ni hds bc tgs ++ wLog g la l1 l2 l3 l4 l5 l6 l7 l8 l9 deed first second item side picked qcnt An An cm) rfl rfl rfl (fun _ => rfl) rfl rfl rfl rfl rfl (Nat.le_of_ble_eq_true rfl) dX5_parentAt_2 ⟨by decide, by decide⟩ (fun _ h_4 => ?_)
  refine v_iload_n C dX5_parentAt_5 rfl 2 rfl ?_
  refine v_if_lt C 21 dX5_parentAt_6 (by decide) ⟨by omega, by omega⟩ (fun c_6 => ?_) (fun c_6 => ?_)
  ·
    exact v_throw C X 7 xG_NE rfl xaX5_parentAt_135 xbX5_parentAt_135 xcX5_parentAt_135 hl dX5_parentAt_21 dX5_parentAt_24 dX5_parentAt_25 dX5_parentAt_27 dX5_parentAt_30 (by decide) (Nat.le_of_ble_eq_true rfl) (by decide) (by decide) (by decide) (by decide) rfl (xE2 (by (try simp only [Int.toNat_natCast]); rw [if_neg (by omega), if_pos (by omega)]) rfl)
  ·
    refine v_iload_n C dX5_parentAt_9 rfl 2 rfl ?_
    refine v_aload_n C dX5_parentAt_10 rfl 0 rfl ?_
    refine v_get C 0 (kf := 5) rfl rfl (by decide) inX5_parentAt_5 lkX5_parentAt_27 rfl rfl dX5_parentAt_11 ?_
    refine v_iload_n C dX5_parentAt_14 rfl 1 rfl ?_
    refine v_invVI C (As := [.int (iI ((x0 : Nat) : Int))]) (q0 := 0) (ci := 0) (kX0_parentCount l g (la := la) (l1 := l1) (l2 := l2) (l3 := l3) (l4 := l4) (l5 := l5) (l6 := l6) (l7 := l7) (l8 := l8) (l9 := l9) (deed := deed) (item := item) (side := side) (picked := picked) (qcnt := qcnt) (An := An) (first := first) (second := second) (cm := cm) (c0 := x0) (by omega) hf hs) (cwV 1 C.2.2.2.2.1 gX5_parentAt_X0_parentCount rfl rfl rfl (by decide +kernel) ⟨Nat.le_of_ble_eq_true rfl, Nat.le_of_ble_eq_true rfl⟩) [4, 5, 6, 7, 8, 9, 10, 11, 12, 13] [0, 1, 2, 3] [0, 1, 2, 3, 4, 5, 6, 7, 8, 9, 10, 11, 12, 13] [.int (iI (y))] (fun _ => wMA g ma m1 m2 m3 la tp qa sa ta ua kinds ni hds bc tgs ++ wLog g la l1 l2 l3 l4 l5 l6 l7 l8 l9 deed first second item side picked qcnt An An cm) rfl rfl rfl (fun _ => rfl) rfl rfl rfl rfl rfl (Nat.le_of_ble_eq_true rfl) dX5_parentAt_15 ⟨by decide, by decide⟩ (fun r_8 _ h_7 => ?_)
    subst h_7
    refine v_icmp_lt C 31 dX5_parentAt_18 (by decide) ⟨by omega, by omega⟩ (pcn31 _ _) (fun c_9 => ?_) (fun c_9 => ?_)
    ·
      refine v_iload_n C dX5_parentAt_31 rfl 2 rfl ?_
      refine v_if_ne C 47 dX5_parentAt_32 (by decide) ⟨by omega, by omega⟩ (fun c_10 => ?_) (fun c_10 => ?_)
      ·
        refine v_aload_n C dX5_parentAt_47 rfl 0 rfl ?_
        refine v_get C 0 (kf := 5) rfl rfl (by decide) inX5_parentAt_5 lkX5_parentAt_27 rfl rfl dX5_parentAt_48 ?_
        refine v_get C 4 (kf := 2) rfl rfl (by decide) inX5_parentAt_0 lkX5_parentAt_151 rfl rfl dX5_parentAt_51 ?_
        refine v_iload_n C dX5_parentAt_54 rfl 1 rfl ?_
        refine v_iald C 7 (x0) rfl rfl (by omega) (by decide) dX5_parentAt_55 ?_
        exact v_xr (v_iret C hr hl () (by decide) (by decide) rfl ⟨(by (try simp only [Int.toNat_natCast]); rw [if_neg (by omega), if_neg (by omega)]), (congrArg iI (if_neg c_10).symm)⟩ dX5_parentAt_56)
      ·
        refine v_aload_n C dX5_parentAt_35 rfl 0 rfl ?_
        refine v_get C 0 (kf := 5) rfl rfl (by decide) inX5_parentAt_5 lkX5_parentAt_27 rfl rfl dX5_parentAt_36 ?_
        refine v_get C 4 (kf := 1) rfl rfl (by decide) inX5_parentAt_0 lkX5_parentAt_148 rfl rfl dX5_parentAt_39 ?_
        refine v_iload_n C dX5_parentAt_42 rfl 1 rfl ?_
        refine v_iald C 6 (x0) rfl rfl (by omega) (by decide) dX5_parentAt_43 ?_
        refine v_goto C 56 dX5_parentAt_44 (by decide) ?_
        exact v_xr (v_iret C hr hl () (by decide) (by decide) rfl ⟨(by (try simp only [Int.toNat_natCast]); rw [if_neg (by omega), if_neg (by omega)]), (congrArg iI (if_pos c_10).symm)⟩ dX5_parentAt_56)
    ·
      exact v_throw C X 7 xG_NE rfl xaX5_parentAt_135 xbX5_parentAt_135 xcX5_parentAt_135 hl dX5_parentAt_21 dX5_parentAt_24 dX5_parentAt_25 dX5_parentAt_27 dX5_parentAt_30 (by decide) (Nat.le_of_ble_eq_true rfl) (by decide) (by decide) (by decide) (by decide) rfl (xE2 (by (try simp only [Int.toNat_natCast]); rw [if_neg (by omega), if_pos (by omega)]) rfl)
theorem inX5_sides_5 : ∀ w ∈ u_ws RX5 TX5 11, w ∈ wsX5_sides := by decide +kernel
theorem lkX5_sides_59 : Cond.fieldLink RX5 59 "MergeAtelier" "kept" "LMergeAtelier$Table;" ∈ wsX5_sides := by decide +kernel
set_option maxHeartbeats 4000000 in
set_option maxRecDepth 100000 in
theorem kX5_sides (l : Launch) (g : vG) (sx : Nat → Nat) (hst : l.stackTraces = false) {ma m1 m2 m3 la tp qa sa ta ua : Nat} {kinds tgs : Nat → Int} {hds : Nat → Nat} {ni bc : Nat} {l1 l2 l3 l4 l5 l6 l7 l8 l9 : Nat} {deed item side picked qcnt An : Nat → Nat} {first second : Nat → Int} {cm : Nat} {tlo thi : Nat} {T : Nat → Nat} {x y : Int} (hx : b31 x) (hy : b31 y) (hni : ni ≤ 12) (hcm : cm ≤ 100) : xI l g sx yX5_sides wsX5_sides ({ frames := 7, cells := 1, slots := 6, locals := 111 }) [.ref (ma), .int (iI (x)), .int (iI (y))] (wMA g ma m1 m2 m3 la tp qa sa ta ua kinds ni hds bc tgs ++ wLog g la l1 l2 l3 l4 l5 l6 l7 l8 l9 deed first second item side picked qcnt An An cm ++ wTab g ta tp tlo thi T T) (fun _ : Unit => wMA g ma m1 m2 m3 la tp qa sa ta ua kinds ni hds bc tgs ++ wLog g la l1 l2 l3 l4 l5 l6 l7 l8 l9 deed first second item side picked qcnt An An cm ++ wTab g ta tp tlo thi T T) (fun v _ => (if ¬ (0 ≤ x ∧ x < (cm : Int) ∧ 0 ≤ y ∧ y < (ni : Int)) then 1 else 0 : Nat) = 0 ∧ v = iI ((cnt (T (12 * x.toNat + y.toNat)) : Nat) : Int)) (fun E => xE [eIO] (if ¬ (0 ≤ x ∧ x < (cm : Int) ∧ 0 ≤ y ∧ y < (ni : Int)) then 1 else 0 : Nat) E) 1 6 := by
  refine x_of (Qc := fun A => va_Qi (fun v _ => (if ¬ (0 ≤ x ∧ x < (cm : Int) ∧ 0 ≤ y ∧ y < (ni : Int)) then 1 else 0 : Nat) = 0 ∧ v = iI ((cnt (T (12 * x.toNat + y.toNat)) : Nat) : Int)) (mB g (fun _ : Unit => wMA g ma m1 m2 m3 la tp qa sa ta ua kinds ni hds bc tgs ++ wLog g la l1 l2 l3 l4 l5 l6 l7 l8 l9 deed first second item side picked qcnt An An cm ++ wTab g ta tp tlo thi T T) A) A) (cc := cX5_sides) (maxL := 3) (ret := (some .int)) (own := RX5) hst (by decide) rfl rfl (Nat.le_of_ble_eq_true rfl) ?_
  intro p e s m args below meth c A C X hr hl
  have hx1 := hx.1
  have hx2 := hx.2
  have hy1 := hy.1
  have hy2 := hy.2
  refine v_aload_n C dX5_sides_0 rfl 0 rfl ?_
  refine v_iload_n C dX5_sides_1 rfl 1 rfl ?_
  by_cases q_1 : 0 ≤ x ∧ x < ((cm : Nat) : Int)
  rotate_left
  ·
    refine v_xinvV C X (As := [.int (iI (x))]) (q0 := 0) (ci := 5) (kX5_requireCommit_bad l g sx hst (ma := ma) (m1 := m1) (m2 := m2) (m3 := m3) (la := la) (tp := tp) (qa := qa) (sa := sa) (ta := ta) (ua := ua) (kinds := kinds) (ni := ni) (hds := hds) (bc := bc) (tgs := tgs) (l1 := l1) (l2 := l2) (l3 := l3) (l4 := l4) (l5 := l5) (l6 := l6) (l7 := l7) (l8 := l8) (l9 := l9) (deed := deed) (item := item) (side := side) (picked := picked) (qcnt := qcnt) (An := An) (first := first) (second := second) (cm := cm) (x := x) ⟨by omega, by omega⟩ (by omega) (by omega)) (cwV 1 C.2.2.2.2.1 gX5_sides_X5_requireCommit rfl rfl rfl (by decide +kernel) ⟨Nat.le_of_ble_eq_true rfl, Nat.le_of_ble_eq_true rfl⟩) [0, 1, 2, 3, 4, 5, 6, 7, 8, 9, 10, 11, 12, 13] [14, 15, 16] [3, 4, 5, 6, 7, 8, 9, 10, 11, 12, 13, 14, 15, 16, 0, 1, 2] [] (fun _ => wMA g ma m1 m2 m3 la tp qa sa ta ua kinds ni hds bc tgs ++ wLog g la l1 l2 l3 l4 l5 l6 l7 l8 l9 deed first second item side picked qcnt An An cm ++ wTab g ta tp tlo thi T T) rfl rfl rfl (fun _ => rfl) rfl rfl rfl rfl rfl rfl (Nat.le_of_ble_eq_true rfl) hl rfl (fun E h => h ▸ (xE1 (by (try simp only [Int.toNat_natCast]); rw [if_pos (by omega)]) rfl)) dX5_sides_2 ⟨by decide, by decide⟩ ⟨by decide, by decide⟩ (fun _ hff => hff.elim)
  obtain ⟨x0, rfl⟩ : ∃ i : Nat, x = (i : Int) := ⟨(x).toNat, by omega⟩
  have hx0 : x0 < cm := by omega
  refine v_invVV C (As := [.int (iI ((x0 : Nat) : Int))]) (q0 := 0) (ci := 5) (kX5_requireCommit_ok l g (ma := ma) (m1 := m1) (m2 := m2) (m3 := m3) (la := la) (tp := tp) (qa := qa) (sa := sa) (ta := ta) (ua := ua) (kinds := kinds) (ni := ni) (hds := hds) (bc := bc) (tgs := tgs) (l1 := l1) (l2 := l2) (l3 := l3) (l4 := l4) (l5 := l5) (l6 := l6) (l7 := l7) (l8 := l8) (l9 := l9) (deed := deed) (item := item) (side := side) (picked := picked) (qcnt := qcnt) (An := An) (first := first) (second := second) (cm := cm) (i0 := x0) (by omega) (by omega)) (cwV 1 C.2.2.2.2.1 gX5_sides_X5_requireCommit rfl rfl rfl (by decide +kernel) ⟨Nat.le_of_ble_eq_true rfl, Nat.le_of_ble_eq_true rfl⟩) [0, 1, 2, 3, 4, 5, 6, 7, 8, 9, 10, 11, 12, 13] [14, 15, 16] [3, 4, 5, 6, 7, 8, 9, 10, 11, 12, 13, 14, 15, 16, 0, 1, 2] [] (fun _ => wMA g ma m1 m2 m3 la tp qa sa ta ua kinds ni hds bc tgs ++ wLog g la l1 l2 l3 l4 l5 l6 l7 l8 l9 deed first second item side picked qcnt An An cm ++ wTab g ta tp tlo thi T T) rfl rfl rfl (fun _ => rfl) rfl rfl rfl rfl rfl (Nat.le_of_ble_eq_true rfl) dX5_sides_2 ⟨by decide, by decide⟩ (fun _ h_4 => ?_)
  refine v_aload_n C dX5_sides_5 rfl 0 rfl ?_
  refine v_iload_n C dX5_sides_6 rfl 2 rfl ?_
  by_cases q_6 : 0 ≤ y ∧ y < ((ni : Nat) : Int)
  rotate_left
  ·
    refine v_xinvV C X (As := [.int (iI (y))]) (q0 := 0) (ci := 5) (kX5_requireItem_bad l g sx hst (ma := ma) (m1 := m1) (m2 := m2) (m3 := m3) (la := la) (tp := tp) (qa := qa) (sa := sa) (ta := ta) (ua := ua) (kinds := kinds) (ni := ni) (hds := hds) (bc := bc) (tgs := tgs)  (x := y) ⟨by omega, by omega⟩ (by omega) (by omega)) (cwV 1 C.2.2.2.2.1 gX5_sides_X5_requireItem rfl rfl rfl (by decide +kernel) ⟨Nat.le_of_ble_eq_true rfl, Nat.le_of_ble_eq_true rfl⟩) [0, 1, 2, 3] [4, 5, 6, 7, 8, 9, 10, 11, 12, 13, 14, 15, 16] [13, 14, 15, 16, 0, 1, 2, 3, 4, 5, 6, 7, 8, 9, 10, 11, 12] [] (fun _ => wMA g ma m1 m2 m3 la tp qa sa ta ua kinds ni hds bc tgs ++ wLog g la l1 l2 l3 l4 l5 l6 l7 l8 l9 deed first second item side picked qcnt An An cm ++ wTab g ta tp tlo thi T T) rfl rfl rfl (fun _ => rfl) rfl rfl rfl rfl rfl rfl (Nat.le_of_ble_eq_true rfl) hl rfl (fun E h => h ▸ (xE1 (by (try simp only [Int.toNat_natCast]); rw [if_pos (by omega)]) rfl)) dX5_sides_7 ⟨by decide, by decide⟩ ⟨by decide, by decide⟩ (fun _ hff => hff.elim)
  obtain ⟨y0, rfl⟩ : ∃ i : Nat, y = (i : Int) := ⟨(y).toNat, by omega⟩
  have hy0 : y0 < ni := by omega
  refine v_invVV C (As := [.int (iI ((y0 : Nat) : Int))]) (q0 := 0) (ci := 5) (kX5_requireItem_ok l g (ma := ma) (m1 := m1) (m2 := m2) (m3 := m3) (la := la) (tp := tp) (qa := qa) (sa := sa) (ta := ta) (ua := ua) (kinds := kinds) (ni := ni) (hds := hds) (bc := bc) (tgs := tgs)  (i0 := y0) (by omega) (by omega)) (cwV 1 C.2.2.2.2.1 gX5_sides_X5_requireItem rfl rfl rfl (by decide +kernel) ⟨Nat.le_of_ble_eq_true rfl, Nat.le_of_ble_eq_true rfl⟩) [0, 1, 2, 3] [4, 5, 6, 7, 8, 9, 10, 11, 12, 13, 14, 15, 16] [13, 14, 15, 16, 0, 1, 2, 3, 4, 5, 6, 7, 8, 9, 10, 11, 12] [] (fun _ => wMA g ma m1 m2 m3 la tp qa sa ta ua kinds ni hds bc tgs ++ wLog g la l1 l2 l3 l4 l5 l6 l7 l8 l9 deed first second item side picked qcnt An An cm ++ wTab g ta tp tlo thi T T) rfl rfl rfl (fun _ => rfl) rfl rfl rfl rfl rfl (Nat.le_of_ble_eq_true rfl) dX5_sides_7 ⟨by decide, by decide⟩ (fun _ h_9 => ?_)
  refine v_aload_n C dX5_sides_10 rfl 0 rfl ?_
  refine v_get C 0 (kf := 9) rfl rfl (by decide) inX5_sides_5 lkX5_sides_59 rfl rfl dX5_sides_11 ?_
  refine v_iload_n C dX5_sides_14 rfl 1 rfl ?_
  refine v_iload_n C dX5_sides_15 rfl 2 rfl ?_
  refine v_invVI C (As := [.int (iI ((x0 : Nat) : Int)), .int (iI ((y0 : Nat) : Int))]) (q0 := 0) (ci := 4) (kX4_sideCount l g (ta := ta) (tp := tp) (tlo := tlo) (thi := thi) (T := T) (r0 := x0) (i0 := y0) (by omega) (by omega)) (cwV 2 C.2.2.2.2.1 gX5_sides_X4_sideCount rfl rfl rfl (by decide +kernel) ⟨Nat.le_of_ble_eq_true rfl, Nat.le_of_ble_eq_true rfl⟩) [14, 15, 16] [0, 1, 2, 3, 4, 5, 6, 7, 8, 9, 10, 11, 12, 13] [0, 1, 2, 3, 4, 5, 6, 7, 8, 9, 10, 11, 12, 13, 14, 15, 16] [] (fun _ => wMA g ma m1 m2 m3 la tp qa sa ta ua kinds ni hds bc tgs ++ wLog g la l1 l2 l3 l4 l5 l6 l7 l8 l9 deed first second item side picked qcnt An An cm ++ wTab g ta tp tlo thi T T) rfl rfl rfl (fun _ => rfl) rfl rfl rfl rfl rfl (Nat.le_of_ble_eq_true rfl) dX5_sides_16 ⟨by decide, by decide⟩ (fun r_12 _ h_11 => ?_)
  subst h_11
  exact v_xr (v_iret C hr hl () (by decide) (by decide) rfl ⟨(by (try simp only [Int.toNat_natCast]); rw [if_neg (by omega)]), rfl⟩ dX5_sides_19)
theorem inX5_conflicts_5 : ∀ w ∈ u_ws RX5 TX5 11, w ∈ wsX5_conflicts := by decide +kernel
theorem lkX5_conflicts_59 : Cond.fieldLink RX5 59 "MergeAtelier" "kept" "LMergeAtelier$Table;" ∈ wsX5_conflicts := by decide +kernel
set_option maxHeartbeats 4000000 in
set_option maxRecDepth 100000 in
theorem kX5_conflicts (l : Launch) (g : vG) (sx : Nat → Nat) (hst : l.stackTraces = false) {ma m1 m2 m3 la tp qa sa ta ua : Nat} {kinds tgs : Nat → Int} {hds : Nat → Nat} {ni bc : Nat} {l1 l2 l3 l4 l5 l6 l7 l8 l9 : Nat} {deed item side picked qcnt An : Nat → Nat} {first second : Nat → Int} {cm : Nat} {tlo thi : Nat} {T : Nat → Nat} {x : Int} (hx : b31 x) (hcm : cm ≤ 100) : xI l g sx yX5_conflicts wsX5_conflicts ({ frames := 7, cells := 1, slots := 6, locals := 111 }) [.ref (ma), .int (iI (x))] (wMA g ma m1 m2 m3 la tp qa sa ta ua kinds ni hds bc tgs ++ wLog g la l1 l2 l3 l4 l5 l6 l7 l8 l9 deed first second item side picked qcnt An An cm ++ wTab g ta tp tlo thi T T) (fun _ : Unit => wMA g ma m1 m2 m3 la tp qa sa ta ua kinds ni hds bc tgs ++ wLog g la l1 l2 l3 l4 l5 l6 l7 l8 l9 deed first second item side picked qcnt An An cm ++ wTab g ta tp tlo thi T T) (fun v _ => (if ¬ (0 ≤ x ∧ x < (cm : Int)) then 1 else 0 : Nat) = 0 ∧ v = iI ((fb_ct (fun i => decide (1 < cnt (T (12 * x.toNat + i)))) 12 : Nat) : Int)) (fun E => xE [eIO] (if ¬ (0 ≤ x ∧ x < (cm : Int)) then 1 else 0 : Nat) E) 1 6 := by
  refine x_of (Qc := fun A => va_Qi (fun v _ => (if ¬ (0 ≤ x ∧ x < (cm : Int)) then 1 else 0 : Nat) = 0 ∧ v = iI ((fb_ct (fun i => decide (1 < cnt (T (12 * x.toNat + i)))) 12 : Nat) : Int)) (mB g (fun _ : Unit => wMA g ma m1 m2 m3 la tp qa sa ta ua kinds ni hds bc tgs ++ wLog g la l1 l2 l3 l4 l5 l6 l7 l8 l9 deed first second item side picked qcnt An An cm ++ wTab g ta tp tlo thi T T) A) A) (cc := cX5_conflicts) (maxL := 2) (ret := (some .int)) (own := RX5) hst (by decide) rfl rfl (Nat.le_of_ble_eq_true rfl) ?_
  intro p e s m args below meth c A C X hr hl
  have hx1 := hx.1
  have hx2 := hx.2
  refine v_aload_n C dX5_conflicts_0 rfl 0 rfl ?_
  refine v_iload_n C dX5_conflicts_1 rfl 1 rfl ?_
  by_cases q_1 : 0 ≤ x ∧ x < ((cm : Nat) : Int)
  rotate_left
  ·
    refine v_xinvV C X (As := [.int (iI (x))]) (q0 := 0) (ci := 5) (kX5_requireCommit_bad l g sx hst (ma := ma) (m1 := m1) (m2 := m2) (m3 := m3) (la := la) (tp := tp) (qa := qa) (sa := sa) (ta := ta) (ua := ua) (kinds := kinds) (ni := ni) (hds := hds) (bc := bc) (tgs := tgs) (l1 := l1) (l2 := l2) (l3 := l3) (l4 := l4) (l5 := l5) (l6 := l6) (l7 := l7) (l8 := l8) (l9 := l9) (deed := deed) (item := item) (side := side) (picked := picked) (qcnt := qcnt) (An := An) (first := first) (second := second) (cm := cm) (x := x) ⟨by omega, by omega⟩ (by omega) (by omega)) (cwV 1 C.2.2.2.2.1 gX5_conflicts_X5_requireCommit rfl rfl rfl (by decide +kernel) ⟨Nat.le_of_ble_eq_true rfl, Nat.le_of_ble_eq_true rfl⟩) [0, 1, 2, 3, 4, 5, 6, 7, 8, 9, 10, 11, 12, 13] [14, 15, 16] [3, 4, 5, 6, 7, 8, 9, 10, 11, 12, 13, 14, 15, 16, 0, 1, 2] [] (fun _ => wMA g ma m1 m2 m3 la tp qa sa ta ua kinds ni hds bc tgs ++ wLog g la l1 l2 l3 l4 l5 l6 l7 l8 l9 deed first second item side picked qcnt An An cm ++ wTab g ta tp tlo thi T T) rfl rfl rfl (fun _ => rfl) rfl rfl rfl rfl rfl rfl (Nat.le_of_ble_eq_true rfl) hl rfl (fun E h => h ▸ (xE1 (by (try simp only [Int.toNat_natCast]); rw [if_pos (by omega)]) rfl)) dX5_conflicts_2 ⟨by decide, by decide⟩ ⟨by decide, by decide⟩ (fun _ hff => hff.elim)
  obtain ⟨x0, rfl⟩ : ∃ i : Nat, x = (i : Int) := ⟨(x).toNat, by omega⟩
  have hx0 : x0 < cm := by omega
  refine v_invVV C (As := [.int (iI ((x0 : Nat) : Int))]) (q0 := 0) (ci := 5) (kX5_requireCommit_ok l g (ma := ma) (m1 := m1) (m2 := m2) (m3 := m3) (la := la) (tp := tp) (qa := qa) (sa := sa) (ta := ta) (ua := ua) (kinds := kinds) (ni := ni) (hds := hds) (bc := bc) (tgs := tgs) (l1 := l1) (l2 := l2) (l3 := l3) (l4 := l4) (l5 := l5) (l6 := l6) (l7 := l7) (l8 := l8) (l9 := l9) (deed := deed) (item := item) (side := side) (picked := picked) (qcnt := qcnt) (An := An) (first := first) (second := second) (cm := cm) (i0 := x0) (by omega) (by omega)) (cwV 1 C.2.2.2.2.1 gX5_conflicts_X5_requireCommit rfl rfl rfl (by decide +kernel) ⟨Nat.le_of_ble_eq_true rfl, Nat.le_of_ble_eq_true rfl⟩) [0, 1, 2, 3, 4, 5, 6, 7, 8, 9, 10, 11, 12, 13] [14, 15, 16] [3, 4, 5, 6, 7, 8, 9, 10, 11, 12, 13, 14, 15, 16, 0, 1, 2] [] (fun _ => wMA g ma m1 m2 m3 la tp qa sa ta ua kinds ni hds bc tgs ++ wLog g la l1 l2 l3 l4 l5 l6 l7 l8 l9 deed first second item side picked qcnt An An cm ++ wTab g ta tp tlo thi T T) rfl rfl rfl (fun _ => rfl) rfl rfl rfl rfl rfl (Nat.le_of_ble_eq_true rfl) dX5_conflicts_2 ⟨by decide, by decide⟩ (fun _ h_4 => ?_)
  refine v_aload_n C dX5_conflicts_5 rfl 0 rfl ?_
  refine v_get C 0 (kf := 9) rfl rfl (by decide) inX5_conflicts_5 lkX5_conflicts_59 rfl rfl dX5_conflicts_6 ?_
  refine v_iload_n C dX5_conflicts_9 rfl 1 rfl ?_
  refine v_invVI C (As := [.int (iI ((x0 : Nat) : Int))]) (q0 := 0) (ci := 4) (kX4_conflictCount l g (ta := ta) (tp := tp) (tlo := tlo) (thi := thi) (T := T) (r0 := x0) (by omega)) (cwV 1 C.2.2.2.2.1 gX5_conflicts_X4_conflictCount rfl rfl rfl (by decide +kernel) ⟨Nat.le_of_ble_eq_true rfl, Nat.le_of_ble_eq_true rfl⟩) [14, 15, 16] [0, 1, 2, 3, 4, 5, 6, 7, 8, 9, 10, 11, 12, 13] [0, 1, 2, 3, 4, 5, 6, 7, 8, 9, 10, 11, 12, 13, 14, 15, 16] [] (fun _ => wMA g ma m1 m2 m3 la tp qa sa ta ua kinds ni hds bc tgs ++ wLog g la l1 l2 l3 l4 l5 l6 l7 l8 l9 deed first second item side picked qcnt An An cm ++ wTab g ta tp tlo thi T T) rfl rfl rfl (fun _ => rfl) rfl rfl rfl rfl rfl (Nat.le_of_ble_eq_true rfl) dX5_conflicts_10 ⟨by decide, by decide⟩ (fun r_7 _ h_6 => ?_)
  subst h_6
  exact v_xr (v_iret C hr hl () (by decide) (by decide) rfl ⟨(by (try simp only [Int.toNat_natCast]); rw [if_neg (by omega)]), rfl⟩ dX5_conflicts_13)
theorem inX5_differences_5 : ∀ w ∈ u_ws RX5 TX5 11, w ∈ wsX5_differences := by decide +kernel
theorem lkX5_differences_59 : Cond.fieldLink RX5 59 "MergeAtelier" "kept" "LMergeAtelier$Table;" ∈ wsX5_differences := by decide +kernel
set_option maxHeartbeats 4000000 in
set_option maxRecDepth 100000 in
theorem kX5_differences (l : Launch) (g : vG) (sx : Nat → Nat) (hst : l.stackTraces = false) {ma m1 m2 m3 la tp qa sa ta ua : Nat} {kinds tgs : Nat → Int} {hds : Nat → Nat} {ni bc : Nat} {l1 l2 l3 l4 l5 l6 l7 l8 l9 : Nat} {deed item side picked qcnt An : Nat → Nat} {first second : Nat → Int} {cm : Nat} {tlo thi : Nat} {T : Nat → Nat} {x y : Int} (hx : b31 x) (hy : b31 y) (hcm : cm ≤ 100) (hT : T128 T) : xI l g sx yX5_differences wsX5_differences ({ frames := 7, cells := 1, slots := 6, locals := 111 }) [.ref (ma), .int (iI (x)), .int (iI (y))] (wMA g ma m1 m2 m3 la tp qa sa ta ua kinds ni hds bc tgs ++ wLog g la l1 l2 l3 l4 l5 l6 l7 l8 l9 deed first second item side picked qcnt An An cm ++ wTab g ta tp tlo thi T T) (fun _ : Unit => wMA g ma m1 m2 m3 la tp qa sa ta ua kinds ni hds bc tgs ++ wLog g la l1 l2 l3 l4 l5 l6 l7 l8 l9 deed first second item side picked qcnt An An cm ++ wTab g ta tp tlo thi T T) (fun v _ => (if ¬ (0 ≤ x ∧ x < (cm : Int) ∧ 0 ≤ y ∧ y < (cm : Int)) then 1 else 0 : Nat) = 0 ∧ v = iI ((fb_ct (fun i => !decide (T (12 * x.toNat + i) = T (12 * y.toNat + i))) 12 : Nat) : Int)) (fun E => xE [eIO] (if ¬ (0 ≤ x ∧ x < (cm : Int) ∧ 0 ≤ y ∧ y < (cm : Int)) then 1 else 0 : Nat) E) 1 6 := by
  refine x_of (Qc := fun A => va_Qi (fun v _ => (if ¬ (0 ≤ x ∧ x < (cm : Int) ∧ 0 ≤ y ∧ y < (cm : Int)) then 1 else 0 : Nat) = 0 ∧ v = iI ((fb_ct (fun i => !decide (T (12 * x.toNat + i) = T (12 * y.toNat + i))) 12 : Nat) : Int)) (mB g (fun _ : Unit => wMA g ma m1 m2 m3 la tp qa sa ta ua kinds ni hds bc tgs ++ wLog g la l1 l2 l3 l4 l5 l6 l7 l8 l9 deed first second item side picked qcnt An An cm ++ wTab g ta tp tlo thi T T) A) A) (cc := cX5_differences) (maxL := 3) (ret := (some .int)) (own := RX5) hst (by decide) rfl rfl (Nat.le_of_ble_eq_true rfl) ?_
  intro p e s m args below meth c A C X hr hl
  have hx1 := hx.1
  have hx2 := hx.2
  have hy1 := hy.1
  have hy2 := hy.2
  refine v_aload_n C dX5_differences_0 rfl 0 rfl ?_
  refine v_iload_n C dX5_differences_1 rfl 1 rfl ?_
  by_cases q_1 : 0 ≤ x ∧ x < ((cm : Nat) : Int)
  rotate_left
  ·
    refine v_xinvV C X (As := [.int (iI (x))]) (q0 := 0) (ci := 5) (kX5_requireCommit_bad l g sx hst (ma := ma) (m1 := m1) (m2 := m2) (m3 := m3) (la := la) (tp := tp) (qa := qa) (sa := sa) (ta := ta) (ua := ua) (kinds := kinds) (ni := ni) (hds := hds) (bc := bc) (tgs := tgs) (l1 := l1) (l2 := l2) (l3 := l3) (l4 := l4) (l5 := l5) (l6 := l6) (l7 := l7) (l8 := l8) (l9 := l9) (deed := deed) (item := item) (side := side) (picked := picked) (qcnt := qcnt) (An := An) (first := first) (second := second) (cm := cm) (x := x) ⟨by omega, by omega⟩ (by omega) (by omega)) (cwV 1 C.2.2.2.2.1 gX5_differences_X5_requireCommit rfl rfl rfl (by decide +kernel) ⟨Nat.le_of_ble_eq_true rfl, Nat.le_of_ble_eq_true rfl⟩) [0, 1, 2, 3, 4, 5, 6, 7, 8, 9, 10, 11, 12, 13] [14, 15, 16] [3, 4, 5, 6, 7, 8, 9, 10, 11, 12, 13, 14, 15, 16, 0, 1, 2] [] (fun _ => wMA g ma m1 m2 m3 la tp qa sa ta ua kinds ni hds bc tgs ++ wLog g la l1 l2 l3 l4 l5 l6 l7 l8 l9 deed first second item side picked qcnt An An cm ++ wTab g ta tp tlo thi T T) rfl rfl rfl (fun _ => rfl) rfl rfl rfl rfl rfl rfl (Nat.le_of_ble_eq_true rfl) hl rfl (fun E h => h ▸ (xE1 (by (try simp only [Int.toNat_natCast]); rw [if_pos (by omega)]) rfl)) dX5_differences_2 ⟨by decide, by decide⟩ ⟨by decide, by decide⟩ (fun _ hff => hff.elim)
  obtain ⟨x0, rfl⟩ : ∃ i : Nat, x = (i : Int) := ⟨(x).toNat, by omega⟩
  have hx0 : x0 < cm := by omega
  refine v_invVV C (As := [.int (iI ((x0 : Nat) : Int))]) (q0 := 0) (ci := 5) (kX5_requireCommit_ok l g (ma := ma) (m1 := m1) (m2 := m2) (m3 := m3) (la := la) (tp := tp) (qa := qa) (sa := sa) (ta := ta) (ua := ua) (kinds := kinds) (ni := ni) (hds := hds) (bc := bc) (tgs := tgs) (l1 := l1) (l2 := l2) (l3 := l3) (l4 := l4) (l5 := l5) (l6 := l6) (l7 := l7) (l8 := l8) (l9 := l9) (deed := deed) (item := item) (side := side) (picked := picked) (qcnt := qcnt) (An := An) (first := first) (second := second) (cm := cm) (i0 := x0) (by omega) (by omega)) (cwV 1 C.2.2.2.2.1 gX5_differences_X5_requireCommit rfl rfl rfl (by decide +kernel) ⟨Nat.le_of_ble_eq_true rfl, Nat.le_of_ble_eq_true rfl⟩) [0, 1, 2, 3, 4, 5, 6, 7, 8, 9, 10, 11, 12, 13] [14, 15, 16] [3, 4, 5, 6, 7, 8, 9, 10, 11, 12, 13, 14, 15, 16, 0, 1, 2] [] (fun _ => wMA g ma m1 m2 m3 la tp qa sa ta ua kinds ni hds bc tgs ++ wLog g la l1 l2 l3 l4 l5 l6 l7 l8 l9 deed first second item side picked qcnt An An cm ++ wTab g ta tp tlo thi T T) rfl rfl rfl (fun _ => rfl) rfl rfl rfl rfl rfl (Nat.le_of_ble_eq_true rfl) dX5_differences_2 ⟨by decide, by decide⟩ (fun _ h_4 => ?_)
  refine v_aload_n C dX5_differences_5 rfl 0 rfl ?_
  refine v_iload_n C dX5_differences_6 rfl 2 rfl ?_
  by_cases q_6 : 0 ≤ y ∧ y < ((cm : Nat) : Int)
  rotate_left
  ·
    refine v_xinvV C X (As := [.int (iI (y))]) (q0 := 0) (ci := 5) (kX5_requireCommit_bad l g sx hst (ma := ma) (m1 := m1) (m2 := m2) (m3 := m3) (la := la) (tp := tp) (qa := qa) (sa := sa) (ta := ta) (ua := ua) (kinds := kinds) (ni := ni) (hds := hds) (bc := bc) (tgs := tgs) (l1 := l1) (l2 := l2) (l3 := l3) (l4 := l4) (l5 := l5) (l6 := l6) (l7 := l7) (l8 := l8) (l9 := l9) (deed := deed) (item := item) (side := side) (picked := picked) (qcnt := qcnt) (An := An) (first := first) (second := second) (cm := cm) (x := y) ⟨by omega, by omega⟩ (by omega) (by omega)) (cwV 1 C.2.2.2.2.1 gX5_differences_X5_requireCommit rfl rfl rfl (by decide +kernel) ⟨Nat.le_of_ble_eq_true rfl, Nat.le_of_ble_eq_true rfl⟩) [0, 1, 2, 3, 4, 5, 6, 7, 8, 9, 10, 11, 12, 13] [14, 15, 16] [3, 4, 5, 6, 7, 8, 9, 10, 11, 12, 13, 14, 15, 16, 0, 1, 2] [] (fun _ => wMA g ma m1 m2 m3 la tp qa sa ta ua kinds ni hds bc tgs ++ wLog g la l1 l2 l3 l4 l5 l6 l7 l8 l9 deed first second item side picked qcnt An An cm ++ wTab g ta tp tlo thi T T) rfl rfl rfl (fun _ => rfl) rfl rfl rfl rfl rfl rfl (Nat.le_of_ble_eq_true rfl) hl rfl (fun E h => h ▸ (xE1 (by (try simp only [Int.toNat_natCast]); rw [if_pos (by omega)]) rfl)) dX5_differences_7 ⟨by decide, by decide⟩ ⟨by decide, by decide⟩ (fun _ hff => hff.elim)
  obtain ⟨y0, rfl⟩ : ∃ i : Nat, y = (i : Int) := ⟨(y).toNat, by omega⟩
  have hy0 : y0 < cm := by omega
  refine v_invVV C (As := [.int (iI ((y0 : Nat) : Int))]) (q0 := 0) (ci := 5) (kX5_requireCommit_ok l g (ma := ma) (m1 := m1) (m2 := m2) (m3 := m3) (la := la) (tp := tp) (qa := qa) (sa := sa) (ta := ta) (ua := ua) (kinds := kinds) (ni := ni) (hds := hds) (bc := bc) (tgs := tgs) (l1 := l1) (l2 := l2) (l3 := l3) (l4 := l4) (l5 := l5) (l6 := l6) (l7 := l7) (l8 := l8) (l9 := l9) (deed := deed) (item := item) (side := side) (picked := picked) (qcnt := qcnt) (An := An) (first := first) (second := second) (cm := cm) (i0 := y0) (by omega) (by omega)) (cwV 1 C.2.2.2.2.1 gX5_differences_X5_requireCommit rfl rfl rfl (by decide +kernel) ⟨Nat.le_of_ble_eq_true rfl, Nat.le_of_ble_eq_true rfl⟩) [0, 1, 2, 3, 4, 5, 6, 7, 8, 9, 10, 11, 12, 13] [14, 15, 16] [3, 4, 5, 6, 7, 8, 9, 10, 11, 12, 13, 14, 15, 16, 0, 1, 2] [] (fun _ => wMA g ma m1 m2 m3 la tp qa sa ta ua kinds ni hds bc tgs ++ wLog g la l1 l2 l3 l4 l5 l6 l7 l8 l9 deed first second item side picked qcnt An An cm ++ wTab g ta tp tlo thi T T) rfl rfl rfl (fun _ => rfl) rfl rfl rfl rfl rfl (Nat.le_of_ble_eq_true rfl) dX5_differences_7 ⟨by decide, by decide⟩ (fun _ h_9 => ?_)
  refine v_aload_n C dX5_differences_10 rfl 0 rfl ?_
  refine v_get C 0 (kf := 9) rfl rfl (by decide) inX5_differences_5 lkX5_differences_59 rfl rfl dX5_differences_11 ?_
  refine v_iload_n C dX5_differences_14 rfl 1 rfl ?_
  refine v_iload_n C dX5_differences_15 rfl 2 rfl ?_
  refine v_invVI C (As := [.int (iI ((x0 : Nat) : Int)), .int (iI ((y0 : Nat) : Int))]) (q0 := 0) (ci := 4) (kX4_differenceCount l g (ta := ta) (tp := tp) (tlo := tlo) (thi := thi) (T := T) (r0 := x0) (f0 := y0) (by omega) (by omega) hT) (cwV 2 C.2.2.2.2.1 gX5_differences_X4_differenceCount rfl rfl rfl (by decide +kernel) ⟨Nat.le_of_ble_eq_true rfl, Nat.le_of_ble_eq_true rfl⟩) [14, 15, 16] [0, 1, 2, 3, 4, 5, 6, 7, 8, 9, 10, 11, 12, 13] [0, 1, 2, 3, 4, 5, 6, 7, 8, 9, 10, 11, 12, 13, 14, 15, 16] [] (fun _ => wMA g ma m1 m2 m3 la tp qa sa ta ua kinds ni hds bc tgs ++ wLog g la l1 l2 l3 l4 l5 l6 l7 l8 l9 deed first second item side picked qcnt An An cm ++ wTab g ta tp tlo thi T T) rfl rfl rfl (fun _ => rfl) rfl rfl rfl rfl rfl (Nat.le_of_ble_eq_true rfl) dX5_differences_16 ⟨by decide, by decide⟩ (fun r_12 _ h_11 => ?_)
  subst h_11
  exact v_xr (v_iret C hr hl () (by decide) (by decide) rfl ⟨(by (try simp only [Int.toNat_natCast]); rw [if_neg (by omega)]), rfl⟩ dX5_differences_19)
set_option maxHeartbeats 4000000 in
set_option maxRecDepth 100000 in
theorem kX5_blame (l : Launch) (g : vG) (sx : Nat → Nat) (hst : l.stackTraces = false) {ma m1 m2 m3 la tp qa sa ta ua : Nat} {kinds tgs : Nat → Int} {hds : Nat → Nat} {ni bc : Nat} {l1 l2 l3 l4 l5 l6 l7 l8 l9 : Nat} {deed item side picked qcnt An : Nat → Nat} {first second : Nat → Int} {cm : Nat} {tlo thi : Nat} {T : Nat → Nat} {x y : Int} (hx : b31 x) (hy : b31 y) (hni : ni ≤ 12) (hcm : cm ≤ 100) (hf : ∀ k, -1 ≤ first k ∧ first k < 100) (hs : ∀ k, -1 ≤ second k ∧ second k < 100) (hT : T128 T) : xI l g sx yX5_blame wsX5_blame ({ frames := 7, cells := 1, slots := 6, locals := 111 }) [.ref (ma), .int (iI (x)), .int (iI (y))] (wMA g ma m1 m2 m3 la tp qa sa ta ua kinds ni hds bc tgs ++ wLog g la l1 l2 l3 l4 l5 l6 l7 l8 l9 deed first second item side picked qcnt An An cm ++ wTab g ta tp tlo thi T T) (fun _ : Unit => wMA g ma m1 m2 m3 la tp qa sa ta ua kinds ni hds bc tgs ++ wLog g la l1 l2 l3 l4 l5 l6 l7 l8 l9 deed first second item side picked qcnt An An cm ++ wTab g ta tp tlo thi T T) (fun v _ => (if ¬ (0 ≤ x ∧ x < (cm : Int) ∧ 0 ≤ y ∧ y < (ni : Int)) then 1 else 0 : Nat) = 0 ∧ v = iI ((blm T first second y.toNat 100 x.toNat : Nat) : Int)) (fun E => xE [eIO] (if ¬ (0 ≤ x ∧ x < (cm : Int) ∧ 0 ≤ y ∧ y < (ni : Int)) then 1 else 0 : Nat) E) 1 6 := by
  refine x_of (Qc := fun A => va_Qi (fun v _ => (if ¬ (0 ≤ x ∧ x < (cm : Int) ∧ 0 ≤ y ∧ y < (ni : Int)) then 1 else 0 : Nat) = 0 ∧ v = iI ((blm T first second y.toNat 100 x.toNat : Nat) : Int)) (mB g (fun _ : Unit => wMA g ma m1 m2 m3 la tp qa sa ta ua kinds ni hds bc tgs ++ wLog g la l1 l2 l3 l4 l5 l6 l7 l8 l9 deed first second item side picked qcnt An An cm ++ wTab g ta tp tlo thi T T) A) A) (cc := cX5_blame) (maxL := 3) (ret := (some .int)) (own := RX5) hst (by decide) rfl rfl (Nat.le_of_ble_eq_true rfl) ?_
  intro p e s m args below meth c A C X hr hl
  have hx1 := hx.1
  have hx2 := hx.2
  have hy1 := hy.1
  have hy2 := hy.2
  refine v_aload_n C dX5_blame_0 rfl 0 rfl ?_
  refine v_iload_n C dX5_blame_1 rfl 1 rfl ?_
  by_cases q_1 : 0 ≤ x ∧ x < ((cm : Nat) : Int)
  rotate_left
  ·
    refine v_xinvV C X (As := [.int (iI (x))]) (q0 := 0) (ci := 5) (kX5_requireCommit_bad l g sx hst (ma := ma) (m1 := m1) (m2 := m2) (m3 := m3) (la := la) (tp := tp) (qa := qa) (sa := sa) (ta := ta) (ua := ua) (kinds := kinds) (ni := ni) (hds := hds) (bc := bc) (tgs := tgs) (l1 := l1) (l2 := l2) (l3 := l3) (l4 := l4) (l5 := l5) (l6 := l6) (l7 := l7) (l8 := l8) (l9 := l9) (deed := deed) (item := item) (side := side) (picked := picked) (qcnt := qcnt) (An := An) (first := first) (second := second) (cm := cm) (x := x) ⟨by omega, by omega⟩ (by omega) (by omega)) (cwV 1 C.2.2.2.2.1 gX5_blame_X5_requireCommit rfl rfl rfl (by decide +kernel) ⟨Nat.le_of_ble_eq_true rfl, Nat.le_of_ble_eq_true rfl⟩) [0, 1, 2, 3, 4, 5, 6, 7, 8, 9, 10, 11, 12, 13] [14, 15, 16] [3, 4, 5, 6, 7, 8, 9, 10, 11, 12, 13, 14, 15, 16, 0, 1, 2] [] (fun _ => wMA g ma m1 m2 m3 la tp qa sa ta ua kinds ni hds bc tgs ++ wLog g la l1 l2 l3 l4 l5 l6 l7 l8 l9 deed first second item side picked qcnt An An cm ++ wTab g ta tp tlo thi T T) rfl rfl rfl (fun _ => rfl) rfl rfl rfl rfl rfl rfl (Nat.le_of_ble_eq_true rfl) hl rfl (fun E h => h ▸ (xE1 (by (try simp only [Int.toNat_natCast]); rw [if_pos (by omega)]) rfl)) dX5_blame_2 ⟨by decide, by decide⟩ ⟨by decide, by decide⟩ (fun _ hff => hff.elim)
  obtain ⟨x0, rfl⟩ : ∃ i : Nat, x = (i : Int) := ⟨(x).toNat, by omega⟩
  have hx0 : x0 < cm := by omega
  refine v_invVV C (As := [.int (iI ((x0 : Nat) : Int))]) (q0 := 0) (ci := 5) (kX5_requireCommit_ok l g (ma := ma) (m1 := m1) (m2 := m2) (m3 := m3) (la := la) (tp := tp) (qa := qa) (sa := sa) (ta := ta) (ua := ua) (kinds := kinds) (ni := ni) (hds := hds) (bc := bc) (tgs := tgs) (l1 := l1) (l2 := l2) (l3 := l3) (l4 := l4) (l5 := l5) (l6 := l6) (l7 := l7) (l8 := l8) (l9 := l9) (deed := deed) (item := item) (side := side) (picked := picked) (qcnt := qcnt) (An := An) (first := first) (second := second) (cm := cm) (i0 := x0) (by omega) (by omega)) (cwV 1 C.2.2.2.2.1 gX5_blame_X5_requireCommit rfl rfl rfl (by decide +kernel) ⟨Nat.le_of_ble_eq_true rfl, Nat.le_of_ble_eq_true rfl⟩) [0, 1, 2, 3, 4, 5, 6, 7, 8, 9, 10, 11, 12, 13] [14, 15, 16] [3, 4, 5, 6, 7, 8, 9, 10, 11, 12, 13, 14, 15, 16, 0, 1, 2] [] (fun _ => wMA g ma m1 m2 m3 la tp qa sa ta ua kinds ni hds bc tgs ++ wLog g la l1 l2 l3 l4 l5 l6 l7 l8 l9 deed first second item side picked qcnt An An cm ++ wTab g ta tp tlo thi T T) rfl rfl rfl (fun _ => rfl) rfl rfl rfl rfl rfl (Nat.le_of_ble_eq_true rfl) dX5_blame_2 ⟨by decide, by decide⟩ (fun _ h_4 => ?_)
  refine v_aload_n C dX5_blame_5 rfl 0 rfl ?_
  refine v_iload_n C dX5_blame_6 rfl 2 rfl ?_
  by_cases q_6 : 0 ≤ y ∧ y < ((ni : Nat) : Int)
  rotate_left
  ·
    refine v_xinvV C X (As := [.int (iI (y))]) (q0 := 0) (ci := 5) (kX5_requireItem_bad l g sx hst (ma := ma) (m1 := m1) (m2 := m2) (m3 := m3) (la := la) (tp := tp) (qa := qa) (sa := sa) (ta := ta) (ua := ua) (kinds := kinds) (ni := ni) (hds := hds) (bc := bc) (tgs := tgs)  (x := y) ⟨by omega, by omega⟩ (by omega) (by omega)) (cwV 1 C.2.2.2.2.1 gX5_blame_X5_requireItem rfl rfl rfl (by decide +kernel) ⟨Nat.le_of_ble_eq_true rfl, Nat.le_of_ble_eq_true rfl⟩) [0, 1, 2, 3] [4, 5, 6, 7, 8, 9, 10, 11, 12, 13, 14, 15, 16] [13, 14, 15, 16, 0, 1, 2, 3, 4, 5, 6, 7, 8, 9, 10, 11, 12] [] (fun _ => wMA g ma m1 m2 m3 la tp qa sa ta ua kinds ni hds bc tgs ++ wLog g la l1 l2 l3 l4 l5 l6 l7 l8 l9 deed first second item side picked qcnt An An cm ++ wTab g ta tp tlo thi T T) rfl rfl rfl (fun _ => rfl) rfl rfl rfl rfl rfl rfl (Nat.le_of_ble_eq_true rfl) hl rfl (fun E h => h ▸ (xE1 (by (try simp only [Int.toNat_natCast]); rw [if_pos (by omega)]) rfl)) dX5_blame_7 ⟨by decide, by decide⟩ ⟨by decide, by decide⟩ (fun _ hff => hff.elim)
  obtain ⟨y0, rfl⟩ : ∃ i : Nat, y = (i : Int) := ⟨(y).toNat, by omega⟩
  have hy0 : y0 < ni := by omega
  refine v_invVV C (As := [.int (iI ((y0 : Nat) : Int))]) (q0 := 0) (ci := 5) (kX5_requireItem_ok l g (ma := ma) (m1 := m1) (m2 := m2) (m3 := m3) (la := la) (tp := tp) (qa := qa) (sa := sa) (ta := ta) (ua := ua) (kinds := kinds) (ni := ni) (hds := hds) (bc := bc) (tgs := tgs)  (i0 := y0) (by omega) (by omega)) (cwV 1 C.2.2.2.2.1 gX5_blame_X5_requireItem rfl rfl rfl (by decide +kernel) ⟨Nat.le_of_ble_eq_true rfl, Nat.le_of_ble_eq_true rfl⟩) [0, 1, 2, 3] [4, 5, 6, 7, 8, 9, 10, 11, 12, 13, 14, 15, 16] [13, 14, 15, 16, 0, 1, 2, 3, 4, 5, 6, 7, 8, 9, 10, 11, 12] [] (fun _ => wMA g ma m1 m2 m3 la tp qa sa ta ua kinds ni hds bc tgs ++ wLog g la l1 l2 l3 l4 l5 l6 l7 l8 l9 deed first second item side picked qcnt An An cm ++ wTab g ta tp tlo thi T T) rfl rfl rfl (fun _ => rfl) rfl rfl rfl rfl rfl (Nat.le_of_ble_eq_true rfl) dX5_blame_7 ⟨by decide, by decide⟩ (fun _ h_9 => ?_)
  refine v_aload_n C dX5_blame_10 rfl 0 rfl ?_
  refine v_iload_n C dX5_blame_11 rfl 1 rfl ?_
  refine v_iload_n C dX5_blame_12 rfl 2 rfl ?_
  refine v_invVI C (As := [.int (iI ((x0 : Nat) : Int)), .int (iI ((y0 : Nat) : Int))]) (q0 := 0) (ci := 5) (kX5_findBlame l g (ma := ma) (m1 := m1) (m2 := m2) (m3 := m3) (la := la) (tp := tp) (qa := qa) (sa := sa) (ta := ta) (ua := ua) (kinds := kinds) (ni := ni) (hds := hds) (bc := bc) (tgs := tgs) (l1 := l1) (l2 := l2) (l3 := l3) (l4 := l4) (l5 := l5) (l6 := l6) (l7 := l7) (l8 := l8) (l9 := l9) (deed := deed) (item := item) (side := side) (picked := picked) (qcnt := qcnt) (An := An) (first := first) (second := second) (cm := cm) (tlo := tlo) (thi := thi) (T := T) (c0 := x0) (i0 := y0) (by omega) (by omega) hf hs hT) (cwV 2 C.2.2.2.2.1 gX5_blame_X5_findBlame rfl rfl rfl (by decide +kernel) ⟨Nat.le_of_ble_eq_true rfl, Nat.le_of_ble_eq_true rfl⟩) [0, 1, 2, 3, 4, 5, 6, 7, 8, 9, 10, 11, 12, 13, 14, 15, 16] [] [0, 1, 2, 3, 4, 5, 6, 7, 8, 9, 10, 11, 12, 13, 14, 15, 16] [] (fun _ => wMA g ma m1 m2 m3 la tp qa sa ta ua kinds ni hds bc tgs ++ wLog g la l1 l2 l3 l4 l5 l6 l7 l8 l9 deed first second item side picked qcnt An An cm ++ wTab g ta tp tlo thi T T) rfl rfl rfl (fun _ => rfl) rfl rfl rfl rfl rfl (Nat.le_of_ble_eq_true rfl) dX5_blame_13 ⟨by decide, by decide⟩ (fun r_12 _ h_11 => ?_)
  subst h_11
  exact v_xr (v_iret C hr hl () (by decide) (by decide) rfl ⟨(by (try simp only [Int.toNat_natCast]); rw [if_neg (by omega)]), rfl⟩ dX5_blame_16)
