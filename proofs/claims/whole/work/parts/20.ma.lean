abbrev wMA (g : vG) (a : Nat) (kd : Nat) (hd : Nat) (tg : Nat) (lg : Nat) (pl : Nat) (qt : Nat) (sc : Nat) (kp : Nat) (rp : Nat) (kinds : Nat → Int) (ni : Nat) (heads : Nat → Nat) (bc : Nat) (tags : Nat → Int) : va_W := [cO a 5 [.ref (kd), .int (iI ((ni : Nat) : Int)), .ref (hd), .int (iI ((bc : Nat) : Int)), .ref (tg), .ref (lg), .ref (pl), .ref (qt), .ref (sc), .ref (kp), .ref (rp)], cC g kd 12 kinds, cIn g hd 5 heads, cI g tg 10 tags]
/-- the code of a refusal names its exception -/
def xE (names : List String) (cd : Nat) (E : String) : Prop := ∃ k : Nat, cd = k + 1 ∧ names[k]? = some E
theorem xE_of {names : List String} {cd k : Nat} {E : String} (h : cd = k + 1) (h2 : names[k]? = some E) : xE names cd E := ⟨k, h, h2⟩
theorem sIx_or (Z : Nat → Bool) (ris : Nat → Nat) (ix : Int) : ∀ n, sIx Z ris ix n = -1 ∨ ∃ q, q < n ∧ Z q = true ∧ ((fb_ct Z q : Nat) : Int) = ix ∧ sIx Z ris ix n = ((ris q : Nat) : Int)
  | 0 => Or.inl rfl
  | n + 1 => by
    rcases sIx_or Z ris ix n with h | ⟨q, h1, h2, h3, h4⟩
    · by_cases h5 : Z n = true ∧ ((fb_ct Z n : Nat) : Int) = ix
      · exact Or.inr ⟨n, Nat.lt_succ_self n, h5.1, h5.2, sIx_hit h h5.1 h5.2 (n + 1) (Nat.lt_succ_self n)⟩
      · refine Or.inl ?_
        show (if sIx Z ris ix n = -1 then _ else _) = _
        rw [if_pos h, if_neg h5]
    · refine Or.inr ⟨q, Nat.lt_succ_of_lt h1, h2, h3, ?_⟩
      show (if sIx Z ris ix n = -1 then _ else sIx Z ris ix n) = _
      rw [if_neg (by rw [h4]; omega), h4]
theorem sIx_nat {Z : Nat → Bool} {ris : Nat → Nat} {ix : Int} {n : Nat} (h : ¬ sIx Z ris ix n = -1) (hr : ∀ q, q < n → ris q < n) : sIx Z ris ix n = (((sIx Z ris ix n).toNat : Nat) : Int) ∧ (sIx Z ris ix n).toNat < n := by
  rcases sIx_or Z ris ix n with h1 | ⟨q, h1, h2, h3, h4⟩
  · exact absurd h1 h
  · have := hr q h1
    rw [h4]
    omega
theorem inX5_requireItem_5 : ∀ w ∈ u_ws RX5 TX5 11, w ∈ wsX5_requireItem := by decide +kernel
theorem lkX5_requireItem_77 : Cond.fieldLink RX5 77 "MergeAtelier" "itemCount" "I" ∈ wsX5_requireItem := by decide +kernel
set_option maxHeartbeats 4000000 in
set_option maxRecDepth 100000 in
theorem kX5_requireItem_ok (l : Launch) (g : vG) {ma m1 m2 m3 la tp qa sa ta ua : Nat} {kinds tgs : Nat → Int} {hds : Nat → Nat} {ni bc : Nat} {i0 : Nat} (hi0 : i0 < ni) (hb : ni ≤ 12) : mV l g yX5_requireItem wsX5_requireItem ({ frames := 0, cells := 0, slots := 0, locals := 0 }) [.ref (ma), .int (iI ((i0 : Nat) : Int))] (wMA g ma m1 m2 m3 la tp qa sa ta ua kinds ni hds bc tgs ++ ([])) (fun _ : Unit => wMA g ma m1 m2 m3 la tp qa sa ta ua kinds ni hds bc tgs ++ ([])) (fun _ => True) 0 0 := by
  refine mV_of (cc := cX5_requireItem) (maxL := 2) (ret := none) (own := RX5) (by decide) rfl rfl (Nat.le_of_ble_eq_true rfl) ?_
  intro p e s m args below meth c A C hr hl hin
  refine v_iload_n C dX5_requireItem_0 rfl 1 rfl ?_
  refine v_if_lt C 12 dX5_requireItem_1 (by decide) ⟨by omega, by omega⟩ (fun c_1 => ?_) (fun c_1 => ?_)
  ·
    exfalso; omega
  ·
    refine v_iload_n C dX5_requireItem_4 rfl 1 rfl ?_
    refine v_aload_n C dX5_requireItem_5 rfl 0 rfl ?_
    refine v_get C 0 (kf := 1) rfl rfl (by decide) inX5_requireItem_5 lkX5_requireItem_77 rfl rfl dX5_requireItem_6 ?_
    refine v_icmp_lt C 22 dX5_requireItem_9 (by decide) ⟨by omega, by omega⟩ ⟨by omega, by omega⟩ (fun c_2 => ?_) (fun c_2 => ?_)
    ·
      exact (v_vret C hr hl () (by decide) (by decide) rfl trivial dX5_requireItem_22)
    ·
      exfalso; omega
theorem xaX5_requireItem_199 : Cond.classLink RX5 199 eIO ∈ wsX5_requireItem := by decide +kernel
theorem xbX5_requireItem_199 : Cond.initialized eIO ∈ wsX5_requireItem := by decide +kernel
theorem xcX5_requireItem_199 : ∀ w ∈ (vx_atS RX5 203 eIO exN).filter goodWord, w ∈ wsX5_requireItem := by decide +kernel
set_option maxHeartbeats 4000000 in
set_option maxRecDepth 100000 in
theorem kX5_requireItem_bad (l : Launch) (g : vG) (sx : Nat → Nat) (hst : l.stackTraces = false) {ma m1 m2 m3 la tp qa sa ta ua : Nat} {kinds tgs : Nat → Int} {hds : Nat → Nat} {ni bc : Nat} {x : Int} (hx : b31 x) (hq : ¬ (0 ≤ x ∧ x < (ni : Int))) (hb : ni ≤ 12) : xV l g sx yX5_requireItem wsX5_requireItem ({ frames := 6, cells := 1, slots := 6, locals := 90 }) [.ref (ma), .int (iI (x))] (wMA g ma m1 m2 m3 la tp qa sa ta ua kinds ni hds bc tgs ++ ([])) (fun _ : Unit => wMA g ma m1 m2 m3 la tp qa sa ta ua kinds ni hds bc tgs ++ ([])) (fun _ => False) (fun E => E = eIO) 1 6 := by
  refine x_of (Qc := fun A => va_Qv (fun _ => False) (mB g (fun _ : Unit => wMA g ma m1 m2 m3 la tp qa sa ta ua kinds ni hds bc tgs ++ ([])) A) A) (cc := cX5_requireItem) (maxL := 2) (ret := none) (own := RX5) hst (by decide) rfl rfl (Nat.le_of_ble_eq_true rfl) ?_
  intro p e s m args below meth c A C X hr hl
  have hx1 := hx.1
  have hx2 := hx.2
  refine v_iload_n C dX5_requireItem_0 rfl 1 rfl ?_
  refine v_if_lt C 12 dX5_requireItem_1 (by decide) ⟨by omega, by omega⟩ (fun c_1 => ?_) (fun c_1 => ?_)
  ·
    exact v_throw C X 15 xG_IO rfl xaX5_requireItem_199 xbX5_requireItem_199 xcX5_requireItem_199 hl dX5_requireItem_12 dX5_requireItem_15 dX5_requireItem_16 dX5_requireItem_18 dX5_requireItem_21 (by decide) (Nat.le_of_ble_eq_true rfl) (by decide) (by decide) (by decide) (by decide) rfl rfl
  ·
    refine v_iload_n C dX5_requireItem_4 rfl 1 rfl ?_
    refine v_aload_n C dX5_requireItem_5 rfl 0 rfl ?_
    refine v_get C 0 (kf := 1) rfl rfl (by decide) inX5_requireItem_5 lkX5_requireItem_77 rfl rfl dX5_requireItem_6 ?_
    refine v_icmp_lt C 22 dX5_requireItem_9 (by decide) ⟨by omega, by omega⟩ ⟨by omega, by omega⟩ (fun c_2 => ?_) (fun c_2 => ?_)
    ·
      exact v_xr (v_vret C hr hl () (by decide) (by decide) rfl (by omega) dX5_requireItem_22)
    ·
      exact v_throw C X 15 xG_IO rfl xaX5_requireItem_199 xbX5_requireItem_199 xcX5_requireItem_199 hl dX5_requireItem_12 dX5_requireItem_15 dX5_requireItem_16 dX5_requireItem_18 dX5_requireItem_21 (by decide) (Nat.le_of_ble_eq_true rfl) (by decide) (by decide) (by decide) (by decide) rfl rfl
theorem inX5_requireBranch_5 : ∀ w ∈ u_ws RX5 TX5 11, w ∈ wsX5_requireBranch := by decide +kernel
theorem lkX5_requireBranch_17 : Cond.fieldLink RX5 17 "MergeAtelier" "branchCount" "I" ∈ wsX5_requireBranch := by decide +kernel
set_option maxHeartbeats 4000000 in
set_option maxRecDepth 100000 in
theorem kX5_requireBranch_ok (l : Launch) (g : vG) {ma m1 m2 m3 la tp qa sa ta ua : Nat} {kinds tgs : Nat → Int} {hds : Nat → Nat} {ni bc : Nat} {i0 : Nat} (hi0 : i0 < bc) (hb : bc ≤ 5) : mV l g yX5_requireBranch wsX5_requireBranch ({ frames := 0, cells := 0, slots := 0, locals := 0 }) [.ref (ma), .int (iI ((i0 : Nat) : Int))] (wMA g ma m1 m2 m3 la tp qa sa ta ua kinds ni hds bc tgs ++ ([])) (fun _ : Unit => wMA g ma m1 m2 m3 la tp qa sa ta ua kinds ni hds bc tgs ++ ([])) (fun _ => True) 0 0 := by
  refine mV_of (cc := cX5_requireBranch) (maxL := 2) (ret := none) (own := RX5) (by decide) rfl rfl (Nat.le_of_ble_eq_true rfl) ?_
  intro p e s m args below meth c A C hr hl hin
  refine v_iload_n C dX5_requireBranch_0 rfl 1 rfl ?_
  refine v_if_lt C 12 dX5_requireBranch_1 (by decide) ⟨by omega, by omega⟩ (fun c_1 => ?_) (fun c_1 => ?_)
  ·
    exfalso; omega
  ·
    refine v_iload_n C dX5_requireBranch_4 rfl 1 rfl ?_
    refine v_aload_n C dX5_requireBranch_5 rfl 0 rfl ?_
    refine v_get C 0 (kf := 3) rfl rfl (by decide) inX5_requireBranch_5 lkX5_requireBranch_17 rfl rfl dX5_requireBranch_6 ?_
    refine v_icmp_lt C 22 dX5_requireBranch_9 (by decide) ⟨by omega, by omega⟩ ⟨by omega, by omega⟩ (fun c_2 => ?_) (fun c_2 => ?_)
    ·
      exact (v_vret C hr hl () (by decide) (by decide) rfl trivial dX5_requireBranch_22)
    ·
      exfalso; omega
theorem xaX5_requireBranch_199 : Cond.classLink RX5 199 eIO ∈ wsX5_requireBranch := by decide +kernel
theorem xbX5_requireBranch_199 : Cond.initialized eIO ∈ wsX5_requireBranch := by decide +kernel
theorem xcX5_requireBranch_199 : ∀ w ∈ (vx_atS RX5 203 eIO exN).filter goodWord, w ∈ wsX5_requireBranch := by decide +kernel
set_option maxHeartbeats 4000000 in
set_option maxRecDepth 100000 in
theorem kX5_requireBranch_bad (l : Launch) (g : vG) (sx : Nat → Nat) (hst : l.stackTraces = false) {ma m1 m2 m3 la tp qa sa ta ua : Nat} {kinds tgs : Nat → Int} {hds : Nat → Nat} {ni bc : Nat} {x : Int} (hx : b31 x) (hq : ¬ (0 ≤ x ∧ x < (bc : Int))) (hb : bc ≤ 5) : xV l g sx yX5_requireBranch wsX5_requireBranch ({ frames := 6, cells := 1, slots := 6, locals := 90 }) [.ref (ma), .int (iI (x))] (wMA g ma m1 m2 m3 la tp qa sa ta ua kinds ni hds bc tgs ++ ([])) (fun _ : Unit => wMA g ma m1 m2 m3 la tp qa sa ta ua kinds ni hds bc tgs ++ ([])) (fun _ => False) (fun E => E = eIO) 1 6 := by
  refine x_of (Qc := fun A => va_Qv (fun _ => False) (mB g (fun _ : Unit => wMA g ma m1 m2 m3 la tp qa sa ta ua kinds ni hds bc tgs ++ ([])) A) A) (cc := cX5_requireBranch) (maxL := 2) (ret := none) (own := RX5) hst (by decide) rfl rfl (Nat.le_of_ble_eq_true rfl) ?_
  intro p e s m args below meth c A C X hr hl
  have hx1 := hx.1
  have hx2 := hx.2
  refine v_iload_n C dX5_requireBranch_0 rfl 1 rfl ?_
  refine v_if_lt C 12 dX5_requireBranch_1 (by decide) ⟨by omega, by omega⟩ (fun c_1 => ?_) (fun c_1 => ?_)
  ·
    exact v_throw C X 16 xG_IO rfl xaX5_requireBranch_199 xbX5_requireBranch_199 xcX5_requireBranch_199 hl dX5_requireBranch_12 dX5_requireBranch_15 dX5_requireBranch_16 dX5_requireBranch_18 dX5_requireBranch_21 (by decide) (Nat.le_of_ble_eq_true rfl) (by decide) (by decide) (by decide) (by decide) rfl rfl
  ·
    refine v_iload_n C dX5_requireBranch_4 rfl 1 rfl ?_
    refine v_aload_n C dX5_requireBranch_5 rfl 0 rfl ?_
    refine v_get C 0 (kf := 3) rfl rfl (by decide) inX5_requireBranch_5 lkX5_requireBranch_17 rfl rfl dX5_requireBranch_6 ?_
    refine v_icmp_lt C 22 dX5_requireBranch_9 (by decide) ⟨by omega, by omega⟩ ⟨by omega, by omega⟩ (fun c_2 => ?_) (fun c_2 => ?_)
    ·
      exact v_xr (v_vret C hr hl () (by decide) (by decide) rfl (by omega) dX5_requireBranch_22)
    ·
      exact v_throw C X 16 xG_IO rfl xaX5_requireBranch_199 xbX5_requireBranch_199 xcX5_requireBranch_199 hl dX5_requireBranch_12 dX5_requireBranch_15 dX5_requireBranch_16 dX5_requireBranch_18 dX5_requireBranch_21 (by decide) (Nat.le_of_ble_eq_true rfl) (by decide) (by decide) (by decide) (by decide) rfl rfl
theorem inX5_requireCommit_5 : ∀ w ∈ u_ws RX5 TX5 11, w ∈ wsX5_requireCommit := by decide +kernel
theorem lkX5_requireCommit_27 : Cond.fieldLink RX5 27 "MergeAtelier" "log" "LMergeAtelier$Log;" ∈ wsX5_requireCommit := by decide +kernel
theorem inX5_requireCommit_0 : ∀ w ∈ u_ws RX0 TX0 10, w ∈ wsX5_requireCommit := by decide +kernel
theorem lkX5_requireCommit_140 : Cond.fieldLink RX5 140 "MergeAtelier$Log" "count" "I" ∈ wsX5_requireCommit := by decide +kernel
set_option maxHeartbeats 4000000 in
set_option maxRecDepth 100000 in
theorem kX5_requireCommit_ok (l : Launch) (g : vG) {ma m1 m2 m3 la tp qa sa ta ua : Nat} {kinds tgs : Nat → Int} {hds : Nat → Nat} {ni bc : Nat} {l1 l2 l3 l4 l5 l6 l7 l8 l9 : Nat} {deed item side picked qcnt An : Nat → Nat} {first second : Nat → Int} {cm : Nat} {i0 : Nat} (hi0 : i0 < cm) (hb : cm ≤ 100) : mV l g yX5_requireCommit wsX5_requireCommit ({ frames := 0, cells := 0, slots := 0, locals := 0 }) [.ref (ma), .int (iI ((i0 : Nat) : Int))] (wMA g ma m1 m2 m3 la tp qa sa ta ua kinds ni hds bc tgs ++ (wLog g la l1 l2 l3 l4 l5 l6 l7 l8 l9 deed first second item side picked qcnt An An cm ++ ([]))) (fun _ : Unit => wMA g ma m1 m2 m3 la tp qa sa ta ua kinds ni hds bc tgs ++ (wLog g la l1 l2 l3 l4 l5 l6 l7 l8 l9 deed first second item side picked qcnt An An cm ++ ([]))) (fun _ => True) 0 0 := by
  refine mV_of (cc := cX5_requireCommit) (maxL := 2) (ret := none) (own := RX5) (by decide) rfl rfl (Nat.le_of_ble_eq_true rfl) ?_
  intro p e s m args below meth c A C hr hl hin
  refine v_iload_n C dX5_requireCommit_0 rfl 1 rfl ?_
  refine v_if_lt C 15 dX5_requireCommit_1 (by decide) ⟨by omega, by omega⟩ (fun c_1 => ?_) (fun c_1 => ?_)
  ·
    exfalso; omega
  ·
    refine v_iload_n C dX5_requireCommit_4 rfl 1 rfl ?_
    refine v_aload_n C dX5_requireCommit_5 rfl 0 rfl ?_
    refine v_get C 0 (kf := 5) rfl rfl (by decide) inX5_requireCommit_5 lkX5_requireCommit_27 rfl rfl dX5_requireCommit_6 ?_
    refine v_get C 4 (kf := 9) rfl rfl (by decide) inX5_requireCommit_0 lkX5_requireCommit_140 rfl rfl dX5_requireCommit_9 ?_
    refine v_icmp_lt C 25 dX5_requireCommit_12 (by decide) ⟨by omega, by omega⟩ ⟨by omega, by omega⟩ (fun c_2 => ?_) (fun c_2 => ?_)
    ·
      exact (v_vret C hr hl () (by decide) (by decide) rfl trivial dX5_requireCommit_25)
    ·
      exfalso; omega
theorem xaX5_requireCommit_199 : Cond.classLink RX5 199 eIO ∈ wsX5_requireCommit := by decide +kernel
theorem xbX5_requireCommit_199 : Cond.initialized eIO ∈ wsX5_requireCommit := by decide +kernel
theorem xcX5_requireCommit_199 : ∀ w ∈ (vx_atS RX5 203 eIO exN).filter goodWord, w ∈ wsX5_requireCommit := by decide +kernel
set_option maxHeartbeats 4000000 in
set_option maxRecDepth 100000 in
theorem kX5_requireCommit_bad (l : Launch) (g : vG) (sx : Nat → Nat) (hst : l.stackTraces = false) {ma m1 m2 m3 la tp qa sa ta ua : Nat} {kinds tgs : Nat → Int} {hds : Nat → Nat} {ni bc : Nat} {l1 l2 l3 l4 l5 l6 l7 l8 l9 : Nat} {deed item side picked qcnt An : Nat → Nat} {first second : Nat → Int} {cm : Nat} {x : Int} (hx : b31 x) (hq : ¬ (0 ≤ x ∧ x < (cm : Int))) (hb : cm ≤ 100) : xV l g sx yX5_requireCommit wsX5_requireCommit ({ frames := 6, cells := 1, slots := 6, locals := 90 }) [.ref (ma), .int (iI (x))] (wMA g ma m1 m2 m3 la tp qa sa ta ua kinds ni hds bc tgs ++ (wLog g la l1 l2 l3 l4 l5 l6 l7 l8 l9 deed first second item side picked qcnt An An cm ++ ([]))) (fun _ : Unit => wMA g ma m1 m2 m3 la tp qa sa ta ua kinds ni hds bc tgs ++ (wLog g la l1 l2 l3 l4 l5 l6 l7 l8 l9 deed first second item side picked qcnt An An cm ++ ([]))) (fun _ => False) (fun E => E = eIO) 1 6 := by
  refine x_of (Qc := fun A => va_Qv (fun _ => False) (mB g (fun _ : Unit => wMA g ma m1 m2 m3 la tp qa sa ta ua kinds ni hds bc tgs ++ (wLog g la l1 l2 l3 l4 l5 l6 l7 l8 l9 deed first second item side picked qcnt An An cm ++ ([]))) A) A) (cc := cX5_requireCommit) (maxL := 2) (ret := none) (own := RX5) hst (by decide) rfl rfl (Nat.le_of_ble_eq_true rfl) ?_
  intro p e s m args below meth c A C X hr hl
  have hx1 := hx.1
  have hx2 := hx.2
  refine v_iload_n C dX5_requireCommit_0 rfl 1 rfl ?_
  refine v_if_lt C 15 dX5_requireCommit_1 (by decide) ⟨by omega, by omega⟩ (fun c_1 => ?_) (fun c_1 => ?_)
  ·
    exact v_throw C X 17 xG_IO rfl xaX5_requireCommit_199 xbX5_requireCommit_199 xcX5_requireCommit_199 hl dX5_requireCommit_15 dX5_requireCommit_18 dX5_requireCommit_19 dX5_requireCommit_21 dX5_requireCommit_24 (by decide) (Nat.le_of_ble_eq_true rfl) (by decide) (by decide) (by decide) (by decide) rfl rfl
  ·
    refine v_iload_n C dX5_requireCommit_4 rfl 1 rfl ?_
    refine v_aload_n C dX5_requireCommit_5 rfl 0 rfl ?_
    refine v_get C 0 (kf := 5) rfl rfl (by decide) inX5_requireCommit_5 lkX5_requireCommit_27 rfl rfl dX5_requireCommit_6 ?_
    refine v_get C 4 (kf := 9) rfl rfl (by decide) inX5_requireCommit_0 lkX5_requireCommit_140 rfl rfl dX5_requireCommit_9 ?_
    refine v_icmp_lt C 25 dX5_requireCommit_12 (by decide) ⟨by omega, by omega⟩ ⟨by omega, by omega⟩ (fun c_2 => ?_) (fun c_2 => ?_)
    ·
      exact v_xr (v_vret C hr hl () (by decide) (by decide) rfl (by omega) dX5_requireCommit_25)
    ·
      exact v_throw C X 17 xG_IO rfl xaX5_requireCommit_199 xbX5_requireCommit_199 xcX5_requireCommit_199 hl dX5_requireCommit_15 dX5_requireCommit_18 dX5_requireCommit_19 dX5_requireCommit_21 dX5_requireCommit_24 (by decide) (Nat.le_of_ble_eq_true rfl) (by decide) (by decide) (by decide) (by decide) rfl rfl
set_option maxHeartbeats 4000000 in
set_option maxRecDepth 100000 in
theorem kX5_requireTag_ok (l : Launch) (g : vG) {ma m1 m2 m3 la tp qa sa ta ua : Nat} {kinds tgs : Nat → Int} {hds : Nat → Nat} {ni bc : Nat} {i0 : Nat} (hi0 : i0 < 10) (hb : True) : mV l g yX5_requireTag wsX5_requireTag ({ frames := 0, cells := 0, slots := 0, locals := 0 }) [.ref (ma), .int (iI ((i0 : Nat) : Int))] (wMA g ma m1 m2 m3 la tp qa sa ta ua kinds ni hds bc tgs ++ ([])) (fun _ : Unit => wMA g ma m1 m2 m3 la tp qa sa ta ua kinds ni hds bc tgs ++ ([])) (fun _ => True) 0 0 := by
  refine mV_of (cc := cX5_requireTag) (maxL := 2) (ret := none) (own := RX5) (by decide) rfl rfl (Nat.le_of_ble_eq_true rfl) ?_
  intro p e s m args below meth c A C hr hl hin
  refine v_iload_n C dX5_requireTag_0 rfl 1 rfl ?_
  refine v_if_lt C 10 dX5_requireTag_1 (by decide) ⟨by omega, by omega⟩ (fun c_1 => ?_) (fun c_1 => ?_)
  ·
    exfalso; omega
  ·
    refine v_iload_n C dX5_requireTag_4 rfl 1 rfl ?_
    refine v_bipush C (z := 10) dX5_requireTag_5 rfl ?_
    refine v_icmp_lt C 20 dX5_requireTag_7 (by decide) ⟨by omega, by omega⟩ (b31_lit _ rfl) (fun c_2 => ?_) (fun c_2 => ?_)
    ·
      exact (v_vret C hr hl () (by decide) (by decide) rfl trivial dX5_requireTag_20)
    ·
      exfalso; omega
theorem xaX5_requireTag_70 : Cond.classLink RX5 70 eIA ∈ wsX5_requireTag := by decide +kernel
theorem xbX5_requireTag_70 : Cond.initialized eIA ∈ wsX5_requireTag := by decide +kernel
theorem xcX5_requireTag_70 : ∀ w ∈ (vx_atS RX5 74 eIA exN).filter goodWord, w ∈ wsX5_requireTag := by decide +kernel
set_option maxHeartbeats 4000000 in
set_option maxRecDepth 100000 in
theorem kX5_requireTag_bad (l : Launch) (g : vG) (sx : Nat → Nat) (hst : l.stackTraces = false) {ma m1 m2 m3 la tp qa sa ta ua : Nat} {kinds tgs : Nat → Int} {hds : Nat → Nat} {ni bc : Nat} {x : Int} (hx : b31 x) (hq : ¬ (0 ≤ x ∧ x < 10)) (hb : True) : xV l g sx yX5_requireTag wsX5_requireTag ({ frames := 6, cells := 1, slots := 6, locals := 90 }) [.ref (ma), .int (iI (x))] (wMA g ma m1 m2 m3 la tp qa sa ta ua kinds ni hds bc tgs ++ ([])) (fun _ : Unit => wMA g ma m1 m2 m3 la tp qa sa ta ua kinds ni hds bc tgs ++ ([])) (fun _ => False) (fun E => E = eIA) 1 6 := by
  refine x_of (Qc := fun A => va_Qv (fun _ => False) (mB g (fun _ : Unit => wMA g ma m1 m2 m3 la tp qa sa ta ua kinds ni hds bc tgs ++ ([])) A) A) (cc := cX5_requireTag) (maxL := 2) (ret := none) (own := RX5) hst (by decide) rfl rfl (Nat.le_of_ble_eq_true rfl) ?_
  intro p e s m args below meth c A C X hr hl
  have hx1 := hx.1
  have hx2 := hx.2
  refine v_iload_n C dX5_requireTag_0 rfl 1 rfl ?_
  refine v_if_lt C 10 dX5_requireTag_1 (by decide) ⟨by omega, by omega⟩ (fun c_1 => ?_) (fun c_1 => ?_)
  ·
    exact v_throw C X 18 xG_IA rfl xaX5_requireTag_70 xbX5_requireTag_70 xcX5_requireTag_70 hl dX5_requireTag_10 dX5_requireTag_13 dX5_requireTag_14 dX5_requireTag_16 dX5_requireTag_19 (by decide) (Nat.le_of_ble_eq_true rfl) (by decide) (by decide) (by decide) (by decide) rfl rfl
  ·
    refine v_iload_n C dX5_requireTag_4 rfl 1 rfl ?_
    refine v_bipush C (z := 10) dX5_requireTag_5 rfl ?_
    refine v_icmp_lt C 20 dX5_requireTag_7 (by decide) ⟨by omega, by omega⟩ (b31_lit _ rfl) (fun c_2 => ?_) (fun c_2 => ?_)
    ·
      exact v_xr (v_vret C hr hl () (by decide) (by decide) rfl (by omega) dX5_requireTag_20)
    ·
      exact v_throw C X 18 xG_IA rfl xaX5_requireTag_70 xbX5_requireTag_70 xcX5_requireTag_70 hl dX5_requireTag_10 dX5_requireTag_13 dX5_requireTag_14 dX5_requireTag_16 dX5_requireTag_19 (by decide) (Nat.le_of_ble_eq_true rfl) (by decide) (by decide) (by decide) (by decide) rfl rfl
