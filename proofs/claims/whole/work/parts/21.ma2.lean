/-- the parent in which the item holds the same, or -1 -/
def fsp (T : Nat → Nat) (first second : Nat → Int) (i j : Nat) : Int := if ¬ first j = -1 ∧ T (12 * j + i) = T (12 * (first j).toNat + i) then first j else if ¬ second j = -1 ∧ T (12 * j + i) = T (12 * (second j).toNat + i) then second j else -1
def blm (T : Nat → Nat) (first second : Nat → Int) (i : Nat) : Nat → Nat → Nat
  | 0, j => j
  | n + 1, j => if fsp T first second i j = -1 then j else blm T first second i n (fsp T first second i j).toNat
theorem fsp_or {T : Nat → Nat} {first second : Nat → Int} (hf : ∀ k, -1 ≤ first k ∧ first k < 100) (hs : ∀ k, -1 ≤ second k ∧ second k < 100) (i j : Nat) : fsp T first second i j = -1 ∨ ∃ k : Nat, fsp T first second i j = (k : Int) ∧ k < 100 := by
  have h1 := hf j
  have h2 := hs j
  unfold fsp
  by_cases a : ¬ first j = -1 ∧ T (12 * j + i) = T (12 * (first j).toNat + i)
  · rw [if_pos a]
    exact Or.inr ⟨(first j).toNat, by omega, by omega⟩
  · rw [if_neg a]
    by_cases b : ¬ second j = -1 ∧ T (12 * j + i) = T (12 * (second j).toNat + i)
    · rw [if_pos b]
      exact Or.inr ⟨(second j).toNat, by omega, by omega⟩
    · rw [if_neg b]
      exact Or.inl rfl
theorem fsp31 {T : Nat → Nat} {first second : Nat → Int} (hf : ∀ k, -1 ≤ first k ∧ first k < 100) (hs : ∀ k, -1 ≤ second k ∧ second k < 100) (i j : Nat) : b31 (fsp T first second i j) := by
  rcases fsp_or hf hs i j with h | ⟨k, h, h2⟩
  · rw [h]; exact ⟨by decide, by decide⟩
  · rw [h]; exact ⟨by omega, by omega⟩
theorem bl_s {T : Nat → Nat} {first second : Nat → Int} {i n j k : Nat} (h0 : 0 < 100 - n) (h : ¬ fsp T first second i j = -1) (e : fsp T first second i j = (k : Int)) : blm T first second i (100 - n) j = blm T first second i (100 - (n + 1)) k := by
  obtain ⟨q, hq⟩ : ∃ q, 100 - n = q + 1 := ⟨100 - n - 1, by omega⟩
  rw [hq, show 100 - (n + 1) = q by omega]
  show (if fsp T first second i j = -1 then j else blm T first second i q (fsp T first second i j).toNat) = _
  rw [if_neg h, e]
  rfl
theorem bl_e {T : Nat → Nat} {first second : Nat → Int} {i n j : Nat} (h0 : 0 < 100 - n) (h : fsp T first second i j = -1) : blm T first second i (100 - n) j = j := by
  obtain ⟨q, hq⟩ : ∃ q, 100 - n = q + 1 := ⟨100 - n - 1, by omega⟩
  rw [hq]
  exact if_pos h
theorem inX5_requireRoomForCommit_5 : ∀ w ∈ u_ws RX5 TX5 11, w ∈ wsX5_requireRoomForCommit := by decide +kernel
theorem lkX5_requireRoomForCommit_27 : Cond.fieldLink RX5 27 "MergeAtelier" "log" "LMergeAtelier$Log;" ∈ wsX5_requireRoomForCommit := by decide +kernel
theorem inX5_requireRoomForCommit_0 : ∀ w ∈ u_ws RX0 TX0 10, w ∈ wsX5_requireRoomForCommit := by decide +kernel
theorem lkX5_requireRoomForCommit_140 : Cond.fieldLink RX5 140 "MergeAtelier$Log" "count" "I" ∈ wsX5_requireRoomForCommit := by decide +kernel
set_option maxHeartbeats 4000000 in
set_option maxRecDepth 100000 in
theorem kX5_requireRoomForCommit_ok (l : Launch) (g : vG) {ma m1 m2 m3 la tp qa sa ta ua : Nat} {kinds tgs : Nat → Int} {hds : Nat → Nat} {ni bc : Nat} {l1 l2 l3 l4 l5 l6 l7 l8 l9 : Nat} {deed item side picked qcnt An : Nat → Nat} {first second : Nat → Int} {cm : Nat} (hb : cm < 100) : mV l g yX5_requireRoomForCommit wsX5_requireRoomForCommit ({ frames := 0, cells := 0, slots := 0, locals := 0 }) [.ref (ma)] (wMA g ma m1 m2 m3 la tp qa sa ta ua kinds ni hds bc tgs ++ (wLog g la l1 l2 l3 l4 l5 l6 l7 l8 l9 deed first second item side picked qcnt An An cm ++ ([]))) (fun _ : Unit => wMA g ma m1 m2 m3 la tp qa sa ta ua kinds ni hds bc tgs ++ (wLog g la l1 l2 l3 l4 l5 l6 l7 l8 l9 deed first second item side picked qcnt An An cm ++ ([]))) (fun _ => True) 0 0 := by
  refine mV_of (cc := cX5_requireRoomForCommit) (maxL := 1) (ret := none) (own := RX5) (by decide) rfl rfl (Nat.le_of_ble_eq_true rfl) ?_
  intro p e s m args below meth c A C hr hl hin
  refine v_aload_n C dX5_requireRoomForCommit_0 rfl 0 rfl ?_
  refine v_get C 0 (kf := 5) rfl rfl (by decide) inX5_requireRoomForCommit_5 lkX5_requireRoomForCommit_27 rfl rfl dX5_requireRoomForCommit_1 ?_
  refine v_get C 4 (kf := 9) rfl rfl (by decide) inX5_requireRoomForCommit_0 lkX5_requireRoomForCommit_140 rfl rfl dX5_requireRoomForCommit_4 ?_
  refine v_bipush C (z := 100) dX5_requireRoomForCommit_7 rfl ?_
  refine v_icmp_lt C 22 dX5_requireRoomForCommit_9 (by decide) ⟨by omega, by omega⟩ (b31_lit _ rfl) (fun c_1 => ?_) (fun c_1 => ?_)
  ·
    exact (v_vret C hr hl () (by decide) (by decide) rfl trivial dX5_requireRoomForCommit_22)
  ·
    exfalso; omega
theorem xaX5_requireRoomForCommit_80 : Cond.classLink RX5 80 eIS ∈ wsX5_requireRoomForCommit := by decide +kernel
theorem xbX5_requireRoomForCommit_80 : Cond.initialized eIS ∈ wsX5_requireRoomForCommit := by decide +kernel
theorem xcX5_requireRoomForCommit_80 : ∀ w ∈ (vx_atS RX5 84 eIS exN).filter goodWord, w ∈ wsX5_requireRoomForCommit := by decide +kernel
set_option maxHeartbeats 4000000 in
set_option maxRecDepth 100000 in
theorem kX5_requireRoomForCommit_bad (l : Launch) (g : vG) (sx : Nat → Nat) (hst : l.stackTraces = false) {ma m1 m2 m3 la tp qa sa ta ua : Nat} {kinds tgs : Nat → Int} {hds : Nat → Nat} {ni bc : Nat} {l1 l2 l3 l4 l5 l6 l7 l8 l9 : Nat} {deed item side picked qcnt An : Nat → Nat} {first second : Nat → Int} {cm : Nat} (hq : ¬ cm < 100) (hb : cm ≤ 100) : xV l g sx yX5_requireRoomForCommit wsX5_requireRoomForCommit ({ frames := 6, cells := 1, slots := 6, locals := 90 }) [.ref (ma)] (wMA g ma m1 m2 m3 la tp qa sa ta ua kinds ni hds bc tgs ++ (wLog g la l1 l2 l3 l4 l5 l6 l7 l8 l9 deed first second item side picked qcnt An An cm ++ ([]))) (fun _ : Unit => wMA g ma m1 m2 m3 la tp qa sa ta ua kinds ni hds bc tgs ++ (wLog g la l1 l2 l3 l4 l5 l6 l7 l8 l9 deed first second item side picked qcnt An An cm ++ ([]))) (fun _ => False) (fun E => E = eIS) 1 6 := by
  refine x_of (Qc := fun A => va_Qv (fun _ => False) (mB g (fun _ : Unit => wMA g ma m1 m2 m3 la tp qa sa ta ua kinds ni hds bc tgs ++ (wLog g la l1 l2 l3 l4 l5 l6 l7 l8 l9 deed first second item side picked qcnt An An cm ++ ([]))) A) A) (cc := cX5_requireRoomForCommit) (maxL := 1) (ret := none) (own := RX5) hst (by decide) rfl rfl (Nat.le_of_ble_eq_true rfl) ?_
  intro p e s m args below meth c A C X hr hl
  refine v_aload_n C dX5_requireRoomForCommit_0 rfl 0 rfl ?_
  refine v_get C 0 (kf := 5) rfl rfl (by decide) inX5_requireRoomForCommit_5 lkX5_requireRoomForCommit_27 rfl rfl dX5_requireRoomForCommit_1 ?_
  refine v_get C 4 (kf := 9) rfl rfl (by decide) inX5_requireRoomForCommit_0 lkX5_requireRoomForCommit_140 rfl rfl dX5_requireRoomForCommit_4 ?_
  refine v_bipush C (z := 100) dX5_requireRoomForCommit_7 rfl ?_
  refine v_icmp_lt C 22 dX5_requireRoomForCommit_9 (by decide) ⟨by omega, by omega⟩ (b31_lit _ rfl) (fun c_1 => ?_) (fun c_1 => ?_)
  ·
    exact v_xr (v_vret C hr hl () (by decide) (by decide) rfl (by omega) dX5_requireRoomForCommit_22)
  ·
    exact v_throw C X 19 xG_IS rfl xaX5_requireRoomForCommit_80 xbX5_requireRoomForCommit_80 xcX5_requireRoomForCommit_80 hl dX5_requireRoomForCommit_12 dX5_requireRoomForCommit_15 dX5_requireRoomForCommit_16 dX5_requireRoomForCommit_18 dX5_requireRoomForCommit_21 (by decide) (Nat.le_of_ble_eq_true rfl) (by decide) (by decide) (by decide) (by decide) rfl rfl
set_option maxHeartbeats 4000000 in
set_option maxRecDepth 100000 in
theorem kX5_requireSide_ok (l : Launch) (g : vG) {ma m1 m2 m3 la tp qa sa ta ua : Nat} {kinds tgs : Nat → Int} {hds : Nat → Nat} {ni bc : Nat} {xa tlo thi : Nat} {T : Nat → Nat} {tv tr : Nat} {vals : Nat → Int} {ris : Nat → Nat} {cn : Nat} {r0 i0 : Nat} {ix : Int} (hr0 : r0 < 102) (hi0 : i0 < 12) (hix : b31 ix) (hcn : cn ≤ 100) (hris : ∀ k, k < cn → ris k < cn) (hq : ¬ sIx (fun j => (T (12 * r0 + i0)).testBit (ris j)) ris ix cn = -1) : mI l g yX5_requireSide wsX5_requireSide ({ frames := 3, cells := 0, slots := 0, locals := 71 }) [.ref (ma), .ref (xa), .int (iI ((r0 : Nat) : Int)), .int (iI ((i0 : Nat) : Int)), .int (iI (ix))] (wMA g ma m1 m2 m3 la tp qa sa ta ua kinds ni hds bc tgs ++ (wTab g xa tp tlo thi T T ++ (wPal g tp tv tr vals ris cn ++ ([])))) (fun _ : Unit => wMA g ma m1 m2 m3 la tp qa sa ta ua kinds ni hds bc tgs ++ (wTab g xa tp tlo thi T T ++ (wPal g tp tv tr vals ris cn ++ ([])))) (fun v _ => v = iI (((sIx (fun j => (T (12 * r0 + i0)).testBit (ris j)) ris ix cn).toNat : Nat) : Int)) 0 0 := by
  refine mI_of (cc := cX5_requireSide) (maxL := 6) (ret := (some .int)) (own := RX5) (by decide) rfl rfl (Nat.le_of_ble_eq_true rfl) ?_
  intro p e s m args below meth c A C hr hl hin
  have hix1 := hix.1
  have hix2 := hix.2
  have hsn := sIx_nat hq hris
  refine v_aload_n C dX5_requireSide_0 rfl 1 rfl ?_
  refine v_iload_n C dX5_requireSide_1 rfl 2 rfl ?_
  refine v_iload_n C dX5_requireSide_2 rfl 3 rfl ?_
  refine v_iload C dX5_requireSide_3 4 rfl ?_
  refine v_invVI C (As := [.int (iI ((r0 : Nat) : Int)), .int (iI ((i0 : Nat) : Int)), .int (iI (ix))]) (q0 := 0) (ci := 4) (kX4_sideAtIndex l g (ta := xa) (tp := tp) (tlo := tlo) (thi := thi) (T := T) (tv := tv) (tr := tr) (vals := vals) (ris := ris) (cn := cn) (r0 := r0) (i0 := i0) (ix := ix) (by omega) (by omega) ⟨by omega, by omega⟩ (by omega) (fun k hk => Nat.lt_of_lt_of_le (hris k hk) (Nat.le_trans hcn (by decide)))) (cwV 3 C.2.2.2.2.1 gX5_requireSide_X4_sideAtIndex rfl rfl rfl (by decide +kernel) ⟨Nat.le_of_ble_eq_true rfl, Nat.le_of_ble_eq_true rfl⟩) [wMA g ma m1 m2 m3 la tp qa sa ta ua kinds ni hds bc tgs, wTab g xa tp tlo thi T T, wPal g tp tv tr vals ris cn] [1, 2] [0] [] (fun _ => [wMA g ma m1 m2 m3 la tp qa sa ta ua kinds ni hds bc tgs, wTab g xa tp tlo thi T T, wPal g tp tv tr vals ris cn]) (fun _ => wMA g ma m1 m2 m3 la tp qa sa ta ua kinds ni hds bc tgs ++ (wTab g xa tp tlo thi T T ++ (wPal g tp tv tr vals ris cn ++ ([])))) rfl rfl rfl (fun _ => rfl) (fun _ => rfl) (fun _ => rfl) (fun _ => rfl) rfl rfl rfl rfl rfl (Nat.le_of_ble_eq_true rfl) dX5_requireSide_5 ⟨by decide, by decide⟩ (fun r_2 _ h_1 => ?_)
  subst h_1
  rw [hsn.1]
  refine v_istore C [(5, .int (iI (((sIx (fun j => (T (12 * r0 + i0)).testBit (ris j)) ris ix cn).toNat : Nat) : Int))), (0, .ref (ma)), (1, .ref (xa)), (2, .int (iI ((r0 : Nat) : Int))), (3, .int (iI ((i0 : Nat) : Int))), (4, .int (iI (ix)))] dX5_requireSide_8 (by decide) rfl ?_
  refine v_iload C dX5_requireSide_10 0 rfl ?_
  refine v_iconst C (z := -1) dX5_requireSide_12 ?_
  refine v_icmp_ne C 26 dX5_requireSide_13 (by decide) ⟨by omega, by omega⟩ (b31_lit _ rfl) (fun c_3 => ?_) (fun c_3 => ?_)
  ·
    refine v_iload C dX5_requireSide_26 0 rfl ?_
    exact (v_iret C hr hl () (by decide) (by decide) rfl rfl dX5_requireSide_28)
  ·
    exfalso; omega
theorem xaX5_requireSide_135 : Cond.classLink RX5 135 eNE ∈ wsX5_requireSide := by decide +kernel
theorem xbX5_requireSide_135 : Cond.initialized eNE ∈ wsX5_requireSide := by decide +kernel
theorem xcX5_requireSide_135 : ∀ w ∈ (vx_atS RX5 139 eNE exN).filter goodWord, w ∈ wsX5_requireSide := by decide +kernel
set_option maxHeartbeats 4000000 in
set_option maxRecDepth 100000 in
theorem kX5_requireSide_bad (l : Launch) (g : vG) (sx : Nat → Nat) (hst : l.stackTraces = false) {ma m1 m2 m3 la tp qa sa ta ua : Nat} {kinds tgs : Nat → Int} {hds : Nat → Nat} {ni bc : Nat} {xa tlo thi : Nat} {T : Nat → Nat} {tv tr : Nat} {vals : Nat → Int} {ris : Nat → Nat} {cn : Nat} {r0 i0 : Nat} {ix : Int} (hr0 : r0 < 102) (hi0 : i0 < 12) (hix : b31 ix) (hcn : cn ≤ 100) (hris : ∀ k, k < cn → ris k < cn) (hq : sIx (fun j => (T (12 * r0 + i0)).testBit (ris j)) ris ix cn = -1) : xI l g sx yX5_requireSide wsX5_requireSide ({ frames := 6, cells := 1, slots := 6, locals := 90 }) [.ref (ma), .ref (xa), .int (iI ((r0 : Nat) : Int)), .int (iI ((i0 : Nat) : Int)), .int (iI (ix))] (wMA g ma m1 m2 m3 la tp qa sa ta ua kinds ni hds bc tgs ++ (wTab g xa tp tlo thi T T ++ (wPal g tp tv tr vals ris cn ++ ([])))) (fun _ : Unit => wMA g ma m1 m2 m3 la tp qa sa ta ua kinds ni hds bc tgs ++ (wTab g xa tp tlo thi T T ++ (wPal g tp tv tr vals ris cn ++ ([])))) (fun _ _ => False) (fun E => E = eNE) 1 6 := by
  refine x_of (Qc := fun A => va_Qi (fun _ _ => False) (mB g (fun _ : Unit => wMA g ma m1 m2 m3 la tp qa sa ta ua kinds ni hds bc tgs ++ (wTab g xa tp tlo thi T T ++ (wPal g tp tv tr vals ris cn ++ ([])))) A) A) (cc := cX5_requireSide) (maxL := 6) (ret := (some .int)) (own := RX5) hst (by decide) rfl rfl (Nat.le_of_ble_eq_true rfl) ?_
  intro p e s m args below meth c A C X hr hl
  have hix1 := hix.1
  have hix2 := hix.2
  refine v_aload_n C dX5_requireSide_0 rfl 1 rfl ?_
  refine v_iload_n C dX5_requireSide_1 rfl 2 rfl ?_
  refine v_iload_n C dX5_requireSide_2 rfl 3 rfl ?_
  refine v_iload C dX5_requireSide_3 4 rfl ?_
  refine v_invVI C (As := [.int (iI ((r0 : Nat) : Int)), .int (iI ((i0 : Nat) : Int)), .int (iI (ix))]) (q0 := 0) (ci := 4) (kX4_sideAtIndex l g (ta := xa) (tp := tp) (tlo := tlo) (thi := thi) (T := T) (tv := tv) (tr := tr) (vals := vals) (ris := ris) (cn := cn) (r0 := r0) (i0 := i0) (ix := ix) (by omega) (by omega) ⟨by omega, by omega⟩ (by omega) (fun k hk => Nat.lt_of_lt_of_le (hris k hk) (Nat.le_trans hcn (by decide)))) (cwV 3 C.2.2.2.2.1 gX5_requireSide_X4_sideAtIndex rfl rfl rfl (by decide +kernel) ⟨Nat.le_of_ble_eq_true rfl, Nat.le_of_ble_eq_true rfl⟩) [wMA g ma m1 m2 m3 la tp qa sa ta ua kinds ni hds bc tgs, wTab g xa tp tlo thi T T, wPal g tp tv tr vals ris cn] [1, 2] [0] [] (fun _ => [wMA g ma m1 m2 m3 la tp qa sa ta ua kinds ni hds bc tgs, wTab g xa tp tlo thi T T, wPal g tp tv tr vals ris cn]) (fun _ => wMA g ma m1 m2 m3 la tp qa sa ta ua kinds ni hds bc tgs ++ (wTab g xa tp tlo thi T T ++ (wPal g tp tv tr vals ris cn ++ ([])))) rfl rfl rfl (fun _ => rfl) (fun _ => rfl) (fun _ => rfl) (fun _ => rfl) rfl rfl rfl rfl rfl (Nat.le_of_ble_eq_true rfl) dX5_requireSide_5 ⟨by decide, by decide⟩ (fun r_2 _ h_1 => ?_)
  subst h_1
  rw [hq]
  refine v_istore C [(5, .int (iI (-1))), (0, .ref (ma)), (1, .ref (xa)), (2, .int (iI ((r0 : Nat) : Int))), (3, .int (iI ((i0 : Nat) : Int))), (4, .int (iI (ix)))] dX5_requireSide_8 (by decide) rfl ?_
  refine v_iload C dX5_requireSide_10 0 rfl ?_
  refine v_iconst C (z := -1) dX5_requireSide_12 ?_
  refine v_icmp_ne C 26 dX5_requireSide_13 (by decide) (b31_lit _ rfl) (b31_lit _ rfl) (fun c_3 => ?_) (fun c_3 => ?_)
  ·
    exfalso; omega
  ·
    exact v_throw C X 20 xG_NE rfl xaX5_requireSide_135 xbX5_requireSide_135 xcX5_requireSide_135 hl dX5_requireSide_16 dX5_requireSide_19 dX5_requireSide_20 dX5_requireSide_22 dX5_requireSide_25 (by decide) (Nat.le_of_ble_eq_true rfl) (by decide) (by decide) (by decide) (by decide) rfl rfl
theorem inX5_moveHead_5 : ∀ w ∈ u_ws RX5 TX5 11, w ∈ wsX5_moveHead := by decide +kernel
theorem lkX5_moveHead_50 : Cond.fieldLink RX5 50 "MergeAtelier" "scribe" "LMergeAtelier$Scribe;" ∈ wsX5_moveHead := by decide +kernel
theorem lkX5_moveHead_59 : Cond.fieldLink RX5 59 "MergeAtelier" "kept" "LMergeAtelier$Table;" ∈ wsX5_moveHead := by decide +kernel
theorem lkX5_moveHead_13 : Cond.fieldLink RX5 13 "MergeAtelier" "heads" "[I" ∈ wsX5_moveHead := by decide +kernel
set_option maxHeartbeats 4000000 in
set_option maxRecDepth 100000 in
theorem kX5_moveHead (l : Launch) (g : vG) {ma m1 m2 m3 la l1 l2 l3 l4 l5 l6 l7 l8 l9 tp tv tr qa q1 q2 q3 sa ta tlo thi ua ulo uhi : Nat} {kinds tgs first second vals qs : Nat → Int} {hds deed item side picked qcnt An ris qi qo T Tr : Nat → Nat} {ni bc cm cn qc : Nat} {b0 j0 : Nat} (hb0 : b0 < 5) (hj0 : j0 < 100) (hcn : cn ≤ 100) (hT : T128 T) (hqb : ∀ k, k < 10 → qi k < 12 ∧ qo k < 12 ∧ -99 ≤ qs k ∧ qs k ≤ 99) (hv : ∀ k, -1000 ≤ vals k ∧ vals k ≤ 999) (hlok : lok deed item side picked qcnt first second j0) : mI l g yX5_moveHead wsX5_moveHead ({ frames := 5, cells := 0, slots := 0, locals := 124 }) [.ref (ma), .int (iI ((b0 : Nat) : Int)), .int (iI ((j0 : Nat) : Int))] (wMA g ma m1 m2 m3 la tp qa sa ta ua kinds ni hds bc tgs ++ (wLog g la l1 l2 l3 l4 l5 l6 l7 l8 l9 deed first second item side picked qcnt An An cm ++ (wPal g tp tv tr vals ris cn ++ (wQuo g qa q1 q2 q3 qi qo qs qc ++ (wScr g sa la qa ++ (wTab g ta tp tlo thi T T ++ (wTab g ua tp ulo uhi Tr Tr ++ ([])))))))) (fun _ : Unit => wMA g ma m1 m2 m3 la tp qa sa ta ua kinds ni (updN hds (b0) (j0)) bc tgs ++ (wLog g la l1 l2 l3 l4 l5 l6 l7 l8 l9 deed first second item side picked qcnt An An cm ++ (wPal g tp tv tr vals ris cn ++ (wQuo g qa q1 q2 q3 qi qo qs qc ++ (wScr g sa la qa ++ (wTab g ta tp tlo thi (wrT vals cn qi qo qs deed item side picked qcnt An first second T j0) (wrT vals cn qi qo qs deed item side picked qcnt An first second T j0) ++ (wTab g ua tp ulo uhi Tr Tr ++ ([])))))))) (fun v _ => v = iI ((j0 : Nat) : Int)) 0 0 := by
  refine mI_of (cc := cX5_moveHead) (maxL := 3) (ret := (some .int)) (own := RX5) (by decide) rfl rfl (Nat.le_of_ble_eq_true rfl) ?_
  intro p e s m args below meth c A C hr hl hin
  refine v_aload_n C dX5_moveHead_0 rfl 0 rfl ?_
  refine v_get C 0 (kf := 8) rfl rfl (by decide) inX5_moveHead_5 lkX5_moveHead_50 rfl rfl dX5_moveHead_1 ?_
  refine v_aload_n C dX5_moveHead_4 rfl 0 rfl ?_
  refine v_get C 0 (kf := 9) rfl rfl (by decide) inX5_moveHead_5 lkX5_moveHead_59 rfl rfl dX5_moveHead_5 ?_
  refine v_iload_n C dX5_moveHead_8 rfl 2 rfl ?_
  refine v_invVV C (As := [.ref (ta), .int (iI ((j0 : Nat) : Int))]) (q0 := 0) (ci := 3) (kX3_write l g (sa := sa) (la := la) (l1 := l1) (l2 := l2) (l3 := l3) (l4 := l4) (l5 := l5) (l6 := l6) (l7 := l7) (l8 := l8) (l9 := l9) (deed := deed) (item := item) (side := side) (picked := picked) (qcnt := qcnt) (An := An) (first := first) (second := second) (cm := cm) (qa := qa) (q1 := q1) (q2 := q2) (q3 := q3) (qi := qi) (qo := qo) (qs := qs) (qc := qc) (ta := ta) (tp := tp) (tlo := tlo) (thi := thi) (T := T) (tv := tv) (tr := tr) (vals := vals) (ris := ris) (cn := cn) (j0 := j0) (by omega) hcn hT hqb hv hlok) (cwV 2 C.2.2.2.2.1 gX5_moveHead_X3_write rfl rfl rfl (by decide +kernel) ⟨Nat.le_of_ble_eq_true rfl, Nat.le_of_ble_eq_true rfl⟩) [wMA g ma m1 m2 m3 la tp qa sa ta ua kinds ni hds bc tgs, wLog g la l1 l2 l3 l4 l5 l6 l7 l8 l9 deed first second item side picked qcnt An An cm, wPal g tp tv tr vals ris cn, wQuo g qa q1 q2 q3 qi qo qs qc, wScr g sa la qa, wTab g ta tp tlo thi T T, wTab g ua tp ulo uhi Tr Tr] [4, 1, 3, 5, 2] [0, 6] [] (fun _ => [wMA g ma m1 m2 m3 la tp qa sa ta ua kinds ni hds bc tgs, wLog g la l1 l2 l3 l4 l5 l6 l7 l8 l9 deed first second item side picked qcnt An An cm, wPal g tp tv tr vals ris cn, wQuo g qa q1 q2 q3 qi qo qs qc, wScr g sa la qa, wTab g ta tp tlo thi (wrT vals cn qi qo qs deed item side picked qcnt An first second T j0) (wrT vals cn qi qo qs deed item side picked qcnt An first second T j0), wTab g ua tp ulo uhi Tr Tr]) (fun _ => wMA g ma m1 m2 m3 la tp qa sa ta ua kinds ni hds bc tgs ++ (wLog g la l1 l2 l3 l4 l5 l6 l7 l8 l9 deed first second item side picked qcnt An An cm ++ (wPal g tp tv tr vals ris cn ++ (wQuo g qa q1 q2 q3 qi qo qs qc ++ (wScr g sa la qa ++ (wTab g ta tp tlo thi (wrT vals cn qi qo qs deed item side picked qcnt An first second T j0) (wrT vals cn qi qo qs deed item side picked qcnt An first second T j0) ++ (wTab g ua tp ulo uhi Tr Tr ++ ([])))))))) rfl rfl rfl (fun _ => rfl) (fun _ => rfl) (fun _ => rfl) (fun _ => rfl) rfl rfl rfl rfl rfl (Nat.le_of_ble_eq_true rfl) dX5_moveHead_9 ⟨by decide, by decide⟩ (fun _ h_1 => ?_)
  refine v_aload_n C dX5_moveHead_12 rfl 0 rfl ?_
  refine v_get C 0 (kf := 2) rfl rfl (by decide) inX5_moveHead_5 lkX5_moveHead_13 rfl rfl dX5_moveHead_13 ?_
  refine v_iload_n C dX5_moveHead_16 rfl 1 rfl ?_
  refine v_iload_n C dX5_moveHead_17 rfl 2 rfl ?_
  refine v_iastn C 2 (b0) (wMA g ma m1 m2 m3 la tp qa sa ta ua kinds ni (updN hds (b0) (j0)) bc tgs ++ (wLog g la l1 l2 l3 l4 l5 l6 l7 l8 l9 deed first second item side picked qcnt An An cm ++ (wPal g tp tv tr vals ris cn ++ (wQuo g qa q1 q2 q3 qi qo qs qc ++ (wScr g sa la qa ++ (wTab g ta tp tlo thi (wrT vals cn qi qo qs deed item side picked qcnt An first second T j0) (wrT vals cn qi qo qs deed item side picked qcnt An first second T j0) ++ (wTab g ua tp ulo uhi Tr Tr ++ ([])))))))) rfl rfl (by omega) (by decide) dX5_moveHead_18 rfl ?_
  refine v_iload_n C dX5_moveHead_19 rfl 2 rfl ?_
  exact (v_iret C hr hl () (by decide) (by decide) rfl rfl dX5_moveHead_20)
theorem inX5_findSameParent_5 : ∀ w ∈ u_ws RX5 TX5 11, w ∈ wsX5_findSameParent := by decide +kernel
theorem lkX5_findSameParent_27 : Cond.fieldLink RX5 27 "MergeAtelier" "log" "LMergeAtelier$Log;" ∈ wsX5_findSameParent := by decide +kernel
theorem inX5_findSameParent_0 : ∀ w ∈ u_ws RX0 TX0 10, w ∈ wsX5_findSameParent := by decide +kernel
theorem lkX5_findSameParent_148 : Cond.fieldLink RX5 148 "MergeAtelier$Log" "first" "[I" ∈ wsX5_findSameParent := by decide +kernel
theorem lkX5_findSameParent_151 : Cond.fieldLink RX5 151 "MergeAtelier$Log" "second" "[I" ∈ wsX5_findSameParent := by decide +kernel
theorem lkX5_findSameParent_59 : Cond.fieldLink RX5 59 "MergeAtelier" "kept" "LMergeAtelier$Table;" ∈ wsX5_findSameParent := by decide +kernel
set_option maxHeartbeats 4000000 in
set_option maxRecDepth 100000 in
theorem kX5_findSameParent (l : Launch) (g : vG) {ma m1 m2 m3 la tp qa sa ta ua : Nat} {kinds tgs : Nat → Int} {hds : Nat → Nat} {ni bc : Nat} {l1 l2 l3 l4 l5 l6 l7 l8 l9 : Nat} {deed item side picked qcnt An : Nat → Nat} {first second : Nat → Int} {cm : Nat} {tlo thi : Nat} {T : Nat → Nat} {c0 i0 : Nat} (hc0 : c0 < 100) (hi0 : i0 < 12) (hf : ∀ k, -1 ≤ first k ∧ first k < 100) (hs : ∀ k, -1 ≤ second k ∧ second k < 100) (hT : T128 T) : mI l g yX5_findSameParent wsX5_findSameParent ({ frames := 2, cells := 0, slots := 0, locals := 46 }) [.ref (ma), .int (iI ((c0 : Nat) : Int)), .int (iI ((i0 : Nat) : Int))] (wMA g ma m1 m2 m3 la tp qa sa ta ua kinds ni hds bc tgs ++ (wLog g la l1 l2 l3 l4 l5 l6 l7 l8 l9 deed first second item side picked qcnt An An cm ++ (wTab g ta tp tlo thi T T ++ ([])))) (fun _ : Unit => wMA g ma m1 m2 m3 la tp qa sa ta ua kinds ni hds bc tgs ++ (wLog g la l1 l2 l3 l4 l5 l6 l7 l8 l9 deed first second item side picked qcnt An An cm ++ (wTab g ta tp tlo thi T T ++ ([])))) (fun v _ => v = iI (fsp T first second i0 c0)) 0 0 := by
  refine mI_of (cc := cX5_findSameParent) (maxL := 5) (ret := (some .int)) (own := RX5) (by decide) rfl rfl (Nat.le_of_ble_eq_true rfl) ?_
  intro p e s m args below meth c A C hr hl hin
  have hf0 := hf c0
  have hs0 := hs c0
  refine v_aload_n C dX5_findSameParent_0 rfl 0 rfl ?_
  refine v_get C 0 (kf := 5) rfl rfl (by decide) inX5_findSameParent_5 lkX5_findSameParent_27 rfl rfl dX5_findSameParent_1 ?_
  refine v_get C 4 (kf := 1) rfl rfl (by decide) inX5_findSameParent_0 lkX5_findSameParent_148 rfl rfl dX5_findSameParent_4 ?_
  refine v_iload_n C dX5_findSameParent_7 rfl 1 rfl ?_
  refine v_iald C 6 (c0) rfl rfl (by omega) (by decide) dX5_findSameParent_8 ?_
  refine v_istore_n C [(3, .int (iI (first (c0)))), (0, .ref (ma)), (1, .int (iI ((c0 : Nat) : Int))), (2, .int (iI ((i0 : Nat) : Int)))] dX5_findSameParent_9 rfl (by decide) rfl ?_
  refine v_iload_n C dX5_findSameParent_10 rfl 0 rfl ?_
  refine v_iconst C (z := -1) dX5_findSameParent_11 ?_
  refine v_icmp_eq C 30 dX5_findSameParent_12 (by decide) ⟨by omega, by omega⟩ (b31_lit _ rfl) (fun c_1 => ?_) (fun c_1 => ?_)
  ·
    refine v_aload_n C dX5_findSameParent_30 rfl 1 rfl ?_
    refine v_get C 0 (kf := 5) rfl rfl (by decide) inX5_findSameParent_5 lkX5_findSameParent_27 rfl rfl dX5_findSameParent_31 ?_
    refine v_get C 4 (kf := 2) rfl rfl (by decide) inX5_findSameParent_0 lkX5_findSameParent_151 rfl rfl dX5_findSameParent_34 ?_
    refine v_iload_n C dX5_findSameParent_37 rfl 2 rfl ?_
    refine v_iald C 7 (c0) rfl rfl (by omega) (by decide) dX5_findSameParent_38 ?_
    refine v_istore C [(4, .int (iI (second (c0)))), (3, .int (iI (first (c0)))), (0, .ref (ma)), (1, .int (iI ((c0 : Nat) : Int))), (2, .int (iI ((i0 : Nat) : Int)))] dX5_findSameParent_39 (by decide) rfl ?_
    refine v_iload C dX5_findSameParent_41 0 rfl ?_
    refine v_iconst C (z := -1) dX5_findSameParent_43 ?_
    refine v_icmp_eq C 64 dX5_findSameParent_44 (by decide) ⟨by omega, by omega⟩ (b31_lit _ rfl) (fun c_2 => ?_) (fun c_2 => ?_)
    ·
      refine v_iconst C (z := -1) dX5_findSameParent_64 ?_
      exact (v_iret C hr hl () (by decide) (by decide) rfl (congrArg iI (by unfold fsp; rw [if_neg (fun h => h.1 c_1), if_neg (fun h => h.1 c_2)])) dX5_findSameParent_65)
    ·
      obtain ⟨k2, e2⟩ : ∃ k : Nat, second (c0) = (k : Int) := ⟨(second (c0)).toNat, by omega⟩
      have hk2 : k2 < 100 := by omega
      rw [e2]
      refine v_aload_n C dX5_findSameParent_47 rfl 2 rfl ?_
      refine v_get C 0 (kf := 9) rfl rfl (by decide) inX5_findSameParent_5 lkX5_findSameParent_59 rfl rfl dX5_findSameParent_48 ?_
      refine v_iload_n C dX5_findSameParent_51 rfl 4 rfl ?_
      refine v_iload_n C dX5_findSameParent_52 rfl 3 rfl ?_
      refine v_iload C dX5_findSameParent_53 0 rfl ?_
      refine v_invVI C (As := [.int (iI ((i0 : Nat) : Int)), .int (iI ((c0 : Nat) : Int)), .int (iI ((k2 : Nat) : Int))]) (q0 := 0) (ci := 4) (kX4_holdsSame l g (ta := ta) (tp := tp) (tlo := tlo) (thi := thi) (T := T) (i0 := i0) (r0 := c0) (f0 := k2) (by omega) (by omega) (by omega) hT) (cwV 3 C.2.2.2.2.1 gX5_findSameParent_X4_holdsSame rfl rfl rfl (by decide +kernel) ⟨Nat.le_of_ble_eq_true rfl, Nat.le_of_ble_eq_true rfl⟩) [wMA g ma m1 m2 m3 la tp qa sa ta ua kinds ni hds bc tgs, wLog g la l1 l2 l3 l4 l5 l6 l7 l8 l9 deed first second item side picked qcnt An An cm, wTab g ta tp tlo thi T T] [2] [0, 1] [] (fun _ => [wMA g ma m1 m2 m3 la tp qa sa ta ua kinds ni hds bc tgs, wLog g la l1 l2 l3 l4 l5 l6 l7 l8 l9 deed first second item side picked qcnt An An cm, wTab g ta tp tlo thi T T]) (fun _ => wMA g ma m1 m2 m3 la tp qa sa ta ua kinds ni hds bc tgs ++ (wLog g la l1 l2 l3 l4 l5 l6 l7 l8 l9 deed first second item side picked qcnt An An cm ++ (wTab g ta tp tlo thi T T ++ ([])))) rfl rfl rfl (fun _ => rfl) (fun _ => rfl) (fun _ => rfl) (fun _ => rfl) rfl rfl rfl rfl rfl (Nat.le_of_ble_eq_true rfl) dX5_findSameParent_55 ⟨by decide, by decide⟩ (fun r_4 _ h_3 => ?_)
      subst h_3
      refine v_ifz_eq C 64 dX5_findSameParent_58 (by decide) (fun c_5 => ?_) (fun c_5 => ?_)
      ·
        refine v_iconst C (z := -1) dX5_findSameParent_64 ?_
        exact (v_iret C hr hl () (by decide) (by decide) rfl (congrArg iI (by unfold fsp; rw [if_neg (fun h => h.1 c_1), if_neg (fun h => of_decide_eq_false c_5 (by have h9 := h.2; rw [e2] at h9; exact h9))])) dX5_findSameParent_65)
      ·
        refine v_iload C dX5_findSameParent_61 0 rfl ?_
        exact (v_iret C hr hl () (by decide) (by decide) rfl (congrArg iI (by unfold fsp; rw [if_neg (fun h => h.1 c_1), if_pos ⟨c_2, by rw [e2]; exact of_decide_eq_true c_5⟩, e2])) dX5_findSameParent_63)
  ·
    obtain ⟨k1, e1⟩ : ∃ k : Nat, first (c0) = (k : Int) := ⟨(first (c0)).toNat, by omega⟩
    have hk1 : k1 < 100 := by omega
    rw [e1]
    refine v_aload_n C dX5_findSameParent_15 rfl 1 rfl ?_
    refine v_get C 0 (kf := 9) rfl rfl (by decide) inX5_findSameParent_5 lkX5_findSameParent_59 rfl rfl dX5_findSameParent_16 ?_
    refine v_iload_n C dX5_findSameParent_19 rfl 3 rfl ?_
    refine v_iload_n C dX5_findSameParent_20 rfl 2 rfl ?_
    refine v_iload_n C dX5_findSameParent_21 rfl 0 rfl ?_
    refine v_invVI C (As := [.int (iI ((i0 : Nat) : Int)), .int (iI ((c0 : Nat) : Int)), .int (iI ((k1 : Nat) : Int))]) (q0 := 0) (ci := 4) (kX4_holdsSame l g (ta := ta) (tp := tp) (tlo := tlo) (thi := thi) (T := T) (i0 := i0) (r0 := c0) (f0 := k1) (by omega) (by omega) (by omega) hT) (cwV 3 C.2.2.2.2.1 gX5_findSameParent_X4_holdsSame rfl rfl rfl (by decide +kernel) ⟨Nat.le_of_ble_eq_true rfl, Nat.le_of_ble_eq_true rfl⟩) [wMA g ma m1 m2 m3 la tp qa sa ta ua kinds ni hds bc tgs, wLog g la l1 l2 l3 l4 l5 l6 l7 l8 l9 deed first second item side picked qcnt An An cm, wTab g ta tp tlo thi T T] [2] [0, 1] [] (fun _ => [wMA g ma m1 m2 m3 la tp qa sa ta ua kinds ni hds bc tgs, wLog g la l1 l2 l3 l4 l5 l6 l7 l8 l9 deed first second item side picked qcnt An An cm, wTab g ta tp tlo thi T T]) (fun _ => wMA g ma m1 m2 m3 la tp qa sa ta ua kinds ni hds bc tgs ++ (wLog g la l1 l2 l3 l4 l5 l6 l7 l8 l9 deed first second item side picked qcnt An An cm ++ (wTab g ta tp tlo thi T T ++ ([])))) rfl rfl rfl (fun _ => rfl) (fun _ => rfl) (fun _ => rfl) (fun _ => rfl) rfl rfl rfl rfl rfl (Nat.le_of_ble_eq_true rfl) dX5_findSameParent_22 ⟨by decide, by decide⟩ (fun r_7 _ h_6 => ?_)
    subst h_6
    refine v_ifz_eq C 30 dX5_findSameParent_25 (by decide) (fun c_8 => ?_) (fun c_8 => ?_)
    ·
      refine v_aload_n C dX5_findSameParent_30 rfl 1 rfl ?_
      refine v_get C 0 (kf := 5) rfl rfl (by decide) inX5_findSameParent_5 lkX5_findSameParent_27 rfl rfl dX5_findSameParent_31 ?_
      refine v_get C 4 (kf := 2) rfl rfl (by decide) inX5_findSameParent_0 lkX5_findSameParent_151 rfl rfl dX5_findSameParent_34 ?_
      refine v_iload_n C dX5_findSameParent_37 rfl 2 rfl ?_
      refine v_iald C 7 (c0) rfl rfl (by omega) (by decide) dX5_findSameParent_38 ?_
      refine v_istore C [(4, .int (iI (second (c0)))), (3, .int (iI ((k1 : Nat) : Int))), (0, .ref (ma)), (1, .int (iI ((c0 : Nat) : Int))), (2, .int (iI ((i0 : Nat) : Int)))] dX5_findSameParent_39 (by decide) rfl ?_
      refine v_iload C dX5_findSameParent_41 0 rfl ?_
      refine v_iconst C (z := -1) dX5_findSameParent_43 ?_
      refine v_icmp_eq C 64 dX5_findSameParent_44 (by decide) ⟨by omega, by omega⟩ (b31_lit _ rfl) (fun c_9 => ?_) (fun c_9 => ?_)
      ·
        refine v_iconst C (z := -1) dX5_findSameParent_64 ?_
        exact (v_iret C hr hl () (by decide) (by decide) rfl (congrArg iI (by unfold fsp; rw [if_neg (fun h => of_decide_eq_false c_8 (by have h9 := h.2; rw [e1] at h9; exact h9)), if_neg (fun h => h.1 c_9)])) dX5_findSameParent_65)
      ·
        obtain ⟨k2, e2⟩ : ∃ k : Nat, second (c0) = (k : Int) := ⟨(second (c0)).toNat, by omega⟩
        have hk2 : k2 < 100 := by omega
        rw [e2]
        refine v_aload_n C dX5_findSameParent_47 rfl 2 rfl ?_
        refine v_get C 0 (kf := 9) rfl rfl (by decide) inX5_findSameParent_5 lkX5_findSameParent_59 rfl rfl dX5_findSameParent_48 ?_
        refine v_iload_n C dX5_findSameParent_51 rfl 4 rfl ?_
        refine v_iload_n C dX5_findSameParent_52 rfl 3 rfl ?_
        refine v_iload C dX5_findSameParent_53 0 rfl ?_
        refine v_invVI C (As := [.int (iI ((i0 : Nat) : Int)), .int (iI ((c0 : Nat) : Int)), .int (iI ((k2 : Nat) : Int))]) (q0 := 0) (ci := 4) (kX4_holdsSame l g (ta := ta) (tp := tp) (tlo := tlo) (thi := thi) (T := T) (i0 := i0) (r0 := c0) (f0 := k2) (by omega) (by omega) (by omega) hT) (cwV 3 C.2.2.2.2.1 gX5_findSameParent_X4_holdsSame rfl rfl rfl (by decide +kernel) ⟨Nat.le_of_ble_eq_true rfl, Nat.le_of_ble_eq_true rfl⟩) [wMA g ma m1 m2 m3 la tp qa sa ta ua kinds ni hds bc tgs, wLog g la l1 l2 l3 l4 l5 l6 l7 l8 l9 deed first second item side picked qcnt An An cm, wTab g ta tp tlo thi T T] [2] [0, 1] [] (fun _ => [wMA g ma m1 m2 m3 la tp qa sa ta ua kinds ni hds bc tgs, wLog g la l1 l2 l3 l4 l5 l6 l7 l8 l9 deed first second item side picked qcnt An An cm, wTab g ta tp tlo thi T T]) (fun _ => wMA g ma m1 m2 m3 la tp qa sa ta ua kinds ni hds bc tgs ++ (wLog g la l1 l2 l3 l4 l5 l6 l7 l8 l9 deed first second item side picked qcnt An An cm ++ (wTab g ta tp tlo thi T T ++ ([])))) rfl rfl rfl (fun _ => rfl) (fun _ => rfl) (fun _ => rfl) (fun _ => rfl) rfl rfl rfl rfl rfl (Nat.le_of_ble_eq_true rfl) dX5_findSameParent_55 ⟨by decide, by decide⟩ (fun r_11 _ h_10 => ?_)
        subst h_10
        refine v_ifz_eq C 64 dX5_findSameParent_58 (by decide) (fun c_12 => ?_) (fun c_12 => ?_)
        ·
          refine v_iconst C (z := -1) dX5_findSameParent_64 ?_
          exact (v_iret C hr hl () (by decide) (by decide) rfl (congrArg iI (by unfold fsp; rw [if_neg (fun h => of_decide_eq_false c_8 (by have h9 := h.2; rw [e1] at h9; exact h9)), if_neg (fun h => of_decide_eq_false c_12 (by have h9 := h.2; rw [e2] at h9; exact h9))])) dX5_findSameParent_65)
        ·
          refine v_iload C dX5_findSameParent_61 0 rfl ?_
          exact (v_iret C hr hl () (by decide) (by decide) rfl (congrArg iI (by unfold fsp; rw [if_neg (fun h => of_decide_eq_false c_8 (by have h9 := h.2; rw [e1] at h9; exact h9)), if_pos ⟨c_9, by rw [e2]; exact of_decide_eq_true c_12⟩, e2])) dX5_findSameParent_63)
    ·
      refine v_iload_n C dX5_findSameParent_28 rfl 0 rfl ?_
      exact (v_iret C hr hl () (by decide) (by decide) rfl (congrArg iI (by unfold fsp; rw [if_pos ⟨c_1, by rw [e1]; exact of_decide_eq_true c_8⟩, e1])) dX5_findSameParent_29)
set_option maxHeartbeats 4000000 in
set_option maxRecDepth 100000 in
theorem kX5_findBlame (l : Launch) (g : vG) {ma m1 m2 m3 la tp qa sa ta ua : Nat} {kinds tgs : Nat → Int} {hds : Nat → Nat} {ni bc : Nat} {l1 l2 l3 l4 l5 l6 l7 l8 l9 : Nat} {deed item side picked qcnt An : Nat → Nat} {first second : Nat → Int} {cm : Nat} {tlo thi : Nat} {T : Nat → Nat} {c0 i0 : Nat} (hc0 : c0 < 100) (hi0 : i0 < 12) (hf : ∀ k, -1 ≤ first k ∧ first k < 100) (hs : ∀ k, -1 ≤ second k ∧ second k < 100) (hT : T128 T) : mI l g yX5_findBlame wsX5_findBlame ({ frames := 3, cells := 0, slots := 0, locals := 70 }) [.ref (ma), .int (iI ((c0 : Nat) : Int)), .int (iI ((i0 : Nat) : Int))] (wMA g ma m1 m2 m3 la tp qa sa ta ua kinds ni hds bc tgs ++ (wLog g la l1 l2 l3 l4 l5 l6 l7 l8 l9 deed first second item side picked qcnt An An cm ++ (wTab g ta tp tlo thi T T ++ ([])))) (fun _ : Unit => wMA g ma m1 m2 m3 la tp qa sa ta ua kinds ni hds bc tgs ++ (wLog g la l1 l2 l3 l4 l5 l6 l7 l8 l9 deed first second item side picked qcnt An An cm ++ (wTab g ta tp tlo thi T T ++ ([])))) (fun v _ => v = iI ((blm T first second i0 100 c0 : Nat) : Int)) 0 0 := by
  refine mI_of (cc := cX5_findBlame) (maxL := 6) (ret := (some .int)) (own := RX5) (by decide) rfl rfl (Nat.le_of_ble_eq_true rfl) ?_
  intro p e s m args below meth c A C hr hl hin
  refine v_iload_n C dX5_findBlame_0 rfl 1 rfl ?_
  refine v_istore_n C [(3, .int (iI ((c0 : Nat) : Int))), (0, .ref (ma)), (1, .int (iI ((c0 : Nat) : Int))), (2, .int (iI ((i0 : Nat) : Int)))] dX5_findBlame_1 rfl (by decide) rfl ?_
  refine v_iconst C (z := 0) dX5_findBlame_2 ?_
  refine v_istore C [(4, .int (iI (0))), (3, .int (iI ((c0 : Nat) : Int))), (0, .ref (ma)), (1, .int (iI ((c0 : Nat) : Int))), (2, .int (iI ((i0 : Nat) : Int)))] dX5_findBlame_3 (by decide) rfl ?_
  refine v_lv (lv' := [(0, .ref (ma)), (1, .int (iI ((c0 : Nat) : Int))), (2, .int (iI ((i0 : Nat) : Int))), (3, .int (iI (((c0, 0).1 : Nat) : Int))), (4, .int (iI (((c0, 0).2 : Nat) : Int)))]) [2, 3, 4, 1, 0] rfl ?_
  refine v_lp1 (X := Nat × Nat) (fun x => wMA g ma m1 m2 m3 la tp qa sa ta ua kinds ni hds bc tgs ++ (wLog g la l1 l2 l3 l4 l5 l6 l7 l8 l9 deed first second item side picked qcnt An An cm ++ (wTab g ta tp tlo thi T T ++ ([])))) (fun x => [(0, .ref (ma)), (1, .int (iI ((c0 : Nat) : Int))), (2, .int (iI ((i0 : Nat) : Int))), (3, .int (iI ((x.1 : Nat) : Int))), (4, .int (iI ((x.2 : Nat) : Int)))]) (fun x => 100 - x.2) (fun x => x.1 < 100 ∧ x.2 ≤ 100 ∧ blm T first second i0 100 c0 = blm T first second i0 (100 - x.2) x.1) ?_ ((c0, 0)) ⟨hc0, Nat.zero_le _, rfl⟩
  intro x hJ5 ih5
  try dsimp only at hJ5 ⊢
  refine v_iload C dX5_findBlame_5 4 rfl ?_
  refine v_bipush C (z := 100) dX5_findBlame_7 rfl ?_
  refine v_icmp_ge C 37 dX5_findBlame_9 (by decide) ⟨by omega, by omega⟩ (b31_lit _ rfl) (fun c_1 => ?_) (fun c_1 => ?_)
  ·
    refine v_iload_n C dX5_findBlame_37 rfl 3 rfl ?_
    exact (v_iret C hr hl () (by decide) (by decide) rfl (congrArg iI (by rw [hJ5.2.2, show 100 - x.2 = 0 by omega]; rfl)) dX5_findBlame_38)
  ·
    have hf31 := fsp31 hf hs i0 x.1 (T := T)
    have hf32 := hf31.1
    have hf33 := hf31.2
    refine v_aload_n C dX5_findBlame_12 rfl 0 rfl ?_
    refine v_iload_n C dX5_findBlame_13 rfl 3 rfl ?_
    refine v_iload_n C dX5_findBlame_14 rfl 2 rfl ?_
    refine v_invVI C (As := [.int (iI ((x.1 : Nat) : Int)), .int (iI ((i0 : Nat) : Int))]) (q0 := 0) (ci := 5) (kX5_findSameParent l g (ma := ma) (m1 := m1) (m2 := m2) (m3 := m3) (la := la) (tp := tp) (qa := qa) (sa := sa) (ta := ta) (ua := ua) (kinds := kinds) (ni := ni) (hds := hds) (bc := bc) (tgs := tgs) (l1 := l1) (l2 := l2) (l3 := l3) (l4 := l4) (l5 := l5) (l6 := l6) (l7 := l7) (l8 := l8) (l9 := l9) (deed := deed) (item := item) (side := side) (picked := picked) (qcnt := qcnt) (An := An) (first := first) (second := second) (cm := cm) (tlo := tlo) (thi := thi) (T := T) (c0 := x.1) (i0 := i0) (by omega) (by omega) hf hs hT) (cwV 2 C.2.2.2.2.1 gX5_findBlame_X5_findSameParent rfl rfl rfl (by decide +kernel) ⟨Nat.le_of_ble_eq_true rfl, Nat.le_of_ble_eq_true rfl⟩) [wMA g ma m1 m2 m3 la tp qa sa ta ua kinds ni hds bc tgs, wLog g la l1 l2 l3 l4 l5 l6 l7 l8 l9 deed first second item side picked qcnt An An cm, wTab g ta tp tlo thi T T] [0, 1, 2] [] [] (fun _ => [wMA g ma m1 m2 m3 la tp qa sa ta ua kinds ni hds bc tgs, wLog g la l1 l2 l3 l4 l5 l6 l7 l8 l9 deed first second item side picked qcnt An An cm, wTab g ta tp tlo thi T T]) (fun _ => wMA g ma m1 m2 m3 la tp qa sa ta ua kinds ni hds bc tgs ++ (wLog g la l1 l2 l3 l4 l5 l6 l7 l8 l9 deed first second item side picked qcnt An An cm ++ (wTab g ta tp tlo thi T T ++ ([])))) rfl rfl rfl (fun _ => rfl) (fun _ => rfl) (fun _ => rfl) (fun _ => rfl) rfl rfl rfl rfl rfl (Nat.le_of_ble_eq_true rfl) dX5_findBlame_15 ⟨by decide, by decide⟩ (fun r_3 _ h_2 => ?_)
    subst h_2
    refine v_istore C [(5, .int (iI (fsp T first second i0 x.1))), (0, .ref (ma)), (1, .int (iI ((c0 : Nat) : Int))), (2, .int (iI ((i0 : Nat) : Int))), (3, .int (iI ((x.1 : Nat) : Int))), (4, .int (iI ((x.2 : Nat) : Int)))] dX5_findBlame_18 (by decide) rfl ?_
    refine v_iload C dX5_findBlame_20 0 rfl ?_
    refine v_iconst C (z := -1) dX5_findBlame_22 ?_
    refine v_icmp_ne C 28 dX5_findBlame_23 (by decide) ⟨by omega, by omega⟩ (b31_lit _ rfl) (fun c_4 => ?_) (fun c_4 => ?_)
    ·
      obtain ⟨k, ek, hk⟩ := (fsp_or hf hs i0 x.1 (T := T)).resolve_left c_4
      rw [ek]
      refine v_iload C dX5_findBlame_28 0 rfl ?_
      refine v_istore_n C [(3, .int (iI ((k : Nat) : Int))), (5, .int (iI ((k : Nat) : Int))), (0, .ref (ma)), (1, .int (iI ((c0 : Nat) : Int))), (2, .int (iI ((i0 : Nat) : Int))), (4, .int (iI ((x.2 : Nat) : Int)))] dX5_findBlame_30 rfl (by decide) rfl ?_
      refine v_iinc C [(4, .int (iI (((x.2 : Nat) : Int) + 1))), (3, .int (iI ((k : Nat) : Int))), (5, .int (iI ((k : Nat) : Int))), (0, .ref (ma)), (1, .int (iI ((c0 : Nat) : Int))), (2, .int (iI ((i0 : Nat) : Int)))] dX5_findBlame_31 5 rfl (by decide) rfl ?_
      rw [show ((x.2 : Nat) : Int) + 1 = ((x.2 + 1 : Nat) : Int) from rfl]
      refine v_goto C 5 dX5_findBlame_34 (by decide) ?_
      -- slot 3: have .int (iI ((k : Nat) : Int)) want .int (iI (((k, x.2 + 1).1 : Nat) : Int))
      -- slot 4: have .int (iI ((x.2 + 1 : Nat) : Int)) want .int (iI (((k, x.2 + 1).2 : Nat) : Int))
      refine v_lv (lv' := [(0, .ref (ma)), (1, .int (iI ((c0 : Nat) : Int))), (2, .int (iI ((i0 : Nat) : Int))), (3, .int (iI (((k, x.2 + 1).1 : Nat) : Int))), (4, .int (iI (((k, x.2 + 1).2 : Nat) : Int)))]) [3, 4, 5, 1, 0] rfl ?_
      exact ih5 ((k, x.2 + 1)) ⟨hk, by show x.2 + 1 ≤ 100; omega, by rw [hJ5.2.2]; exact bl_s (by omega) c_4 ek⟩ (by omega)
    ·
      refine v_iload_n C dX5_findBlame_26 rfl 4 rfl ?_
      exact (v_iret C hr hl () (by decide) (by decide) rfl (congrArg iI (by rw [hJ5.2.2, bl_e (by omega) c_4])) dX5_findBlame_27)
