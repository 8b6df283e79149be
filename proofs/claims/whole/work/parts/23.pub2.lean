theorem chr_nar {z : Int} (h0 : 0 ≤ z) (h1 : z < 65536) : narrow .char (.int (iI z)) = .int (iI z) := by
  obtain ⟨n, rfl⟩ : ∃ n : Nat, z = (n : Int) := ⟨z.toNat, by omega⟩
  rw [iI_nI]
  exact (pk_charN (by omega)).1
theorem chr_vp {z : Int} (h0 : 0 ≤ z) (h1 : z < 65536) : vp_nar .char (iI z) = iI z := by
  have h := chr_nar h0 h1
  unfold vp_nar
  rw [h]
theorem inX5_kindOf_5 : ∀ w ∈ u_ws RX5 TX5 11, w ∈ wsX5_kindOf := by decide +kernel
theorem lkX5_kindOf_9 : Cond.fieldLink RX5 9 "MergeAtelier" "kinds" "[C" ∈ wsX5_kindOf := by decide +kernel
set_option maxHeartbeats 4000000 in
set_option maxRecDepth 100000 in
theorem kX5_kindOf (l : Launch) (g : vG) (sx : Nat → Nat) (hst : l.stackTraces = false) {ma m1 m2 m3 la tp qa sa ta ua : Nat} {kinds tgs : Nat → Int} {hds : Nat → Nat} {ni bc : Nat} {x : Int} (hx : b31 x) (hni : ni ≤ 12) (hkd : ∀ k, 0 ≤ kinds k ∧ kinds k < 65536) : xI l g sx yX5_kindOf wsX5_kindOf ({ frames := 7, cells := 1, slots := 6, locals := 111 }) [.ref (ma), .int (iI (x))] (wMA g ma m1 m2 m3 la tp qa sa ta ua kinds ni hds bc tgs ++ ([])) (fun _ : Unit => wMA g ma m1 m2 m3 la tp qa sa ta ua kinds ni hds bc tgs ++ ([])) (fun v _ => (if ¬ (0 ≤ x ∧ x < (ni : Int)) then 1 else 0 : Nat) = 0 ∧ v = iI (kinds x.toNat)) (fun E => xE [eIO] (if ¬ (0 ≤ x ∧ x < (ni : Int)) then 1 else 0 : Nat) E) 1 6 := by
  refine x_of (Qc := fun A => va_Qi (fun v _ => (if ¬ (0 ≤ x ∧ x < (ni : Int)) then 1 else 0 : Nat) = 0 ∧ v = iI (kinds x.toNat)) (mB g (fun _ : Unit => wMA g ma m1 m2 m3 la tp qa sa ta ua kinds ni hds bc tgs ++ ([])) A) A) (cc := cX5_kindOf) (maxL := 2) (ret := (some .char)) (own := RX5) hst (by decide) rfl rfl (Nat.le_of_ble_eq_true rfl) ?_
  intro p e s m args below meth c A C X hr hl
  have hx1 := hx.1
  have hx2 := hx.2
  refine v_aload_n C dX5_kindOf_0 rfl 0 rfl ?_
  refine v_iload_n C dX5_kindOf_1 rfl 1 rfl ?_
  by_cases q_1 : 0 ≤ x ∧ x < ((ni : Nat) : Int)
  rotate_left
  ·
    refine v_xinvV C X (As := [.int (iI (x))]) (q0 := 0) (ci := 5) (kX5_requireItem_bad l g sx hst (ma := ma) (m1 := m1) (m2 := m2) (m3 := m3) (la := la) (tp := tp) (qa := qa) (sa := sa) (ta := ta) (ua := ua) (kinds := kinds) (ni := ni) (hds := hds) (bc := bc) (tgs := tgs)  (x := x) ⟨by omega, by omega⟩ (by omega) (by omega)) (cwV 1 C.2.2.2.2.1 gX5_kindOf_X5_requireItem rfl rfl rfl (by decide +kernel) ⟨Nat.le_of_ble_eq_true rfl, Nat.le_of_ble_eq_true rfl⟩) [wMA g ma m1 m2 m3 la tp qa sa ta ua kinds ni hds bc tgs] [0] [] [] (fun _ => [wMA g ma m1 m2 m3 la tp qa sa ta ua kinds ni hds bc tgs]) (fun _ => wMA g ma m1 m2 m3 la tp qa sa ta ua kinds ni hds bc tgs ++ ([])) rfl rfl rfl (fun _ => rfl) (fun _ => rfl) (fun _ => rfl) (fun _ => rfl) rfl rfl rfl rfl rfl (Nat.le_of_ble_eq_true rfl) hl rfl (fun E h => h ▸ (xE1 (by (try simp only [Int.toNat_natCast]); rw [if_pos (by omega)]) rfl)) dX5_kindOf_2 ⟨by decide, by decide⟩ ⟨by decide, by decide⟩ (fun _ hff => hff.elim)
  obtain ⟨x0, rfl⟩ : ∃ i : Nat, x = (i : Int) := ⟨(x).toNat, by omega⟩
  have hx0 : x0 < ni := by omega
  refine v_invVV C (As := [.int (iI ((x0 : Nat) : Int))]) (q0 := 0) (ci := 5) (kX5_requireItem_ok l g (ma := ma) (m1 := m1) (m2 := m2) (m3 := m3) (la := la) (tp := tp) (qa := qa) (sa := sa) (ta := ta) (ua := ua) (kinds := kinds) (ni := ni) (hds := hds) (bc := bc) (tgs := tgs)  (i0 := x0) (by omega) (by omega)) (cwV 1 C.2.2.2.2.1 gX5_kindOf_X5_requireItem rfl rfl rfl (by decide +kernel) ⟨Nat.le_of_ble_eq_true rfl, Nat.le_of_ble_eq_true rfl⟩) [wMA g ma m1 m2 m3 la tp qa sa ta ua kinds ni hds bc tgs] [0] [] [] (fun _ => [wMA g ma m1 m2 m3 la tp qa sa ta ua kinds ni hds bc tgs]) (fun _ => wMA g ma m1 m2 m3 la tp qa sa ta ua kinds ni hds bc tgs ++ ([])) rfl rfl rfl (fun _ => rfl) (fun _ => rfl) (fun _ => rfl) (fun _ => rfl) rfl rfl rfl rfl rfl (Nat.le_of_ble_eq_true rfl) dX5_kindOf_2 ⟨by decide, by decide⟩ (fun _ h_4 => ?_)
  refine v_aload_n C dX5_kindOf_5 rfl 0 rfl ?_
  refine v_get C 0 (kf := 0) rfl rfl (by decide) inX5_kindOf_5 lkX5_kindOf_9 rfl rfl dX5_kindOf_6 ?_
  refine v_iload_n C dX5_kindOf_9 rfl 1 rfl ?_
  refine v_cald C 1 (x0) rfl rfl (by omega) (by decide) dX5_kindOf_10 ?_
  exact v_xr (v_zret C hr hl () (chr_nar (hkd x0).1 (hkd x0).2) (by decide) (by decide) rfl ⟨(by (try simp only [Int.toNat_natCast]); rw [if_neg (by omega)]), rfl⟩ dX5_kindOf_11)
theorem inX5_addItem_5 : ∀ w ∈ u_ws RX5 TX5 11, w ∈ wsX5_addItem := by decide +kernel
theorem lkX5_addItem_77 : Cond.fieldLink RX5 77 "MergeAtelier" "itemCount" "I" ∈ wsX5_addItem := by decide +kernel
theorem lkX5_addItem_9 : Cond.fieldLink RX5 9 "MergeAtelier" "kinds" "[C" ∈ wsX5_addItem := by decide +kernel
theorem xaX5_addItem_80 : Cond.classLink RX5 80 eIS ∈ wsX5_addItem := by decide +kernel
theorem xbX5_addItem_80 : Cond.initialized eIS ∈ wsX5_addItem := by decide +kernel
theorem xcX5_addItem_80 : ∀ w ∈ (vx_atS RX5 84 eIS exN).filter goodWord, w ∈ wsX5_addItem := by decide +kernel
theorem xaX5_addItem_70 : Cond.classLink RX5 70 eIA ∈ wsX5_addItem := by decide +kernel
theorem xbX5_addItem_70 : Cond.initialized eIA ∈ wsX5_addItem := by decide +kernel
theorem xcX5_addItem_70 : ∀ w ∈ (vx_atS RX5 74 eIA exN).filter goodWord, w ∈ wsX5_addItem := by decide +kernel
set_option maxHeartbeats 4000000 in
set_option maxRecDepth 100000 in
theorem kX5_addItem (l : Launch) (g : vG) (sx : Nat → Nat) (hst : l.stackTraces = false) {ma m1 m2 m3 la tp qa sa ta ua : Nat} {kinds tgs : Nat → Int} {hds : Nat → Nat} {ni bc : Nat} {x : Int} (hx : b31 x) (hni : ni ≤ 12) (hxc : 0 ≤ x ∧ x < 65536) : xI l g sx yX5_addItem wsX5_addItem ({ frames := 6, cells := 1, slots := 6, locals := 90 }) [.ref (ma), .int (iI (x))] (wMA g ma m1 m2 m3 la tp qa sa ta ua kinds ni hds bc tgs ++ ([])) (fun _ : Unit => wMA g ma m1 m2 m3 la tp qa sa ta ua (updZ kinds (ni) (x)) (ni + 1) hds bc tgs ++ ([])) (fun v _ => (if ¬ (x = 116 ∨ x = 99 ∨ x = 115) then 1 else if ni = 12 then 2 else 0 : Nat) = 0 ∧ v = iI ((ni : Nat) : Int)) (fun E => xE [eIA, eIS] (if ¬ (x = 116 ∨ x = 99 ∨ x = 115) then 1 else if ni = 12 then 2 else 0 : Nat) E) 1 6 := by
  refine x_of (Qc := fun A => va_Qi (fun v _ => (if ¬ (x = 116 ∨ x = 99 ∨ x = 115) then 1 else if ni = 12 then 2 else 0 : Nat) = 0 ∧ v = iI ((ni : Nat) : Int)) (mB g (fun _ : Unit => wMA g ma m1 m2 m3 la tp qa sa ta ua (updZ kinds (ni) (x)) (ni + 1) hds bc tgs ++ ([])) A) A) (cc := cX5_addItem) (maxL := 2) (ret := (some .int)) (own := RX5) hst (by decide) rfl rfl (Nat.le_of_ble_eq_true rfl) ?_
  intro p e s m args below meth c A C X hr hl
  have hx1 := hx.1
  have hx2 := hx.2
  refine v_iload_n C dX5_addItem_0 rfl 1 rfl ?_
  refine v_bipush C (z := 116) dX5_addItem_1 rfl ?_
  refine v_icmp_eq C 28 dX5_addItem_3 (by decide) ⟨by omega, by omega⟩ (b31_lit _ rfl) (fun c_1 => ?_) (fun c_1 => ?_)
  ·
    refine v_aload_n C dX5_addItem_28 rfl 0 rfl ?_
    refine v_get C 0 (kf := 1) rfl rfl (by decide) inX5_addItem_5 lkX5_addItem_77 rfl rfl dX5_addItem_29 ?_
    refine v_bipush C (z := 12) dX5_addItem_32 rfl ?_
    refine v_icmp_lt C 47 dX5_addItem_34 (by decide) ⟨by omega, by omega⟩ (b31_lit _ rfl) (fun c_2 => ?_) (fun c_2 => ?_)
    ·
      refine v_aload_n C dX5_addItem_47 rfl 0 rfl ?_
      refine v_get C 0 (kf := 0) rfl rfl (by decide) inX5_addItem_5 lkX5_addItem_9 rfl rfl dX5_addItem_48 ?_
      refine v_aload_n C dX5_addItem_51 rfl 0 rfl ?_
      refine v_get C 0 (kf := 1) rfl rfl (by decide) inX5_addItem_5 lkX5_addItem_77 rfl rfl dX5_addItem_52 ?_
      refine v_iload_n C dX5_addItem_55 rfl 1 rfl ?_
      refine v_cast C 1 (ni) (wMA g ma m1 m2 m3 la tp qa sa ta ua (updZ kinds (ni) (x)) ni hds bc tgs ++ ([])) rfl rfl (by omega) (by decide) (chr_vp hxc.1 hxc.2) dX5_addItem_56 rfl ?_
      refine v_aload_n C dX5_addItem_57 rfl 0 rfl ?_
      refine v_dup C dX5_addItem_58 rfl ?_
      refine v_get C 0 (kf := 1) rfl rfl (by decide) inX5_addItem_5 lkX5_addItem_77 rfl rfl dX5_addItem_59 ?_
      refine v_iconst C (z := 1) dX5_addItem_62 ?_
      refine v_iadd C dX5_addItem_63 ?_
      rw [show (((ni : Nat) : Int)) + 1 = ((ni + 1 : Nat) : Int) from rfl]
      refine v_put C 0 (kf := 1) (wMA g ma m1 m2 m3 la tp qa sa ta ua (updZ kinds (ni) (x)) (ni + 1) hds bc tgs ++ ([])) rfl rfl (by decide) inX5_addItem_5 lkX5_addItem_77 rfl tyX5_ok nmX5 rfl rfl rfl (Nat.le_of_ble_eq_true rfl) dX5_addItem_64 rfl ?_
      refine v_aload_n C dX5_addItem_67 rfl 0 rfl ?_
      refine v_get C 0 (kf := 1) rfl rfl (by decide) inX5_addItem_5 lkX5_addItem_77 rfl rfl dX5_addItem_68 ?_
      refine v_iconst C (z := 1) dX5_addItem_71 ?_
      refine v_isub C dX5_addItem_72 ?_
      exact v_xr (v_iret C hr hl () (by decide) (by decide) rfl ⟨(by (try simp only [Int.toNat_natCast]); rw [if_neg (by omega), if_neg (by omega)]), (congrArg iI (by omega))⟩ dX5_addItem_73)
    ·
      exact v_throw C X 1 xG_IS rfl xaX5_addItem_80 xbX5_addItem_80 xcX5_addItem_80 hl dX5_addItem_37 dX5_addItem_40 dX5_addItem_41 dX5_addItem_43 dX5_addItem_46 (by decide) (Nat.le_of_ble_eq_true rfl) (by decide) (by decide) (by decide) (by decide) rfl (xE2 (by (try simp only [Int.toNat_natCast]); rw [if_neg (by omega), if_pos (by omega)]) rfl)
  ·
    refine v_iload_n C dX5_addItem_6 rfl 1 rfl ?_
    refine v_bipush C (z := 99) dX5_addItem_7 rfl ?_
    refine v_icmp_eq C 28 dX5_addItem_9 (by decide) ⟨by omega, by omega⟩ (b31_lit _ rfl) (fun c_3 => ?_) (fun c_3 => ?_)
    ·
      refine v_aload_n C dX5_addItem_28 rfl 0 rfl ?_
      refine v_get C 0 (kf := 1) rfl rfl (by decide) inX5_addItem_5 lkX5_addItem_77 rfl rfl dX5_addItem_29 ?_
      refine v_bipush C (z := 12) dX5_addItem_32 rfl ?_
      refine v_icmp_lt C 47 dX5_addItem_34 (by decide) ⟨by omega, by omega⟩ (b31_lit _ rfl) (fun c_4 => ?_) (fun c_4 => ?_)
      ·
        refine v_aload_n C dX5_addItem_47 rfl 0 rfl ?_
        refine v_get C 0 (kf := 0) rfl rfl (by decide) inX5_addItem_5 lkX5_addItem_9 rfl rfl dX5_addItem_48 ?_
        refine v_aload_n C dX5_addItem_51 rfl 0 rfl ?_
        refine v_get C 0 (kf := 1) rfl rfl (by decide) inX5_addItem_5 lkX5_addItem_77 rfl rfl dX5_addItem_52 ?_
        refine v_iload_n C dX5_addItem_55 rfl 1 rfl ?_
        refine v_cast C 1 (ni) (wMA g ma m1 m2 m3 la tp qa sa ta ua (updZ kinds (ni) (x)) ni hds bc tgs ++ ([])) rfl rfl (by omega) (by decide) (chr_vp hxc.1 hxc.2) dX5_addItem_56 rfl ?_
        refine v_aload_n C dX5_addItem_57 rfl 0 rfl ?_
        refine v_dup C dX5_addItem_58 rfl ?_
        refine v_get C 0 (kf := 1) rfl rfl (by decide) inX5_addItem_5 lkX5_addItem_77 rfl rfl dX5_addItem_59 ?_
        refine v_iconst C (z := 1) dX5_addItem_62 ?_
        refine v_iadd C dX5_addItem_63 ?_
        rw [show (((ni : Nat) : Int)) + 1 = ((ni + 1 : Nat) : Int) from rfl]
        refine v_put C 0 (kf := 1) (wMA g ma m1 m2 m3 la tp qa sa ta ua (updZ kinds (ni) (x)) (ni + 1) hds bc tgs ++ ([])) rfl rfl (by decide) inX5_addItem_5 lkX5_addItem_77 rfl tyX5_ok nmX5 rfl rfl rfl (Nat.le_of_ble_eq_true rfl) dX5_addItem_64 rfl ?_
        refine v_aload_n C dX5_addItem_67 rfl 0 rfl ?_
        refine v_get C 0 (kf := 1) rfl rfl (by decide) inX5_addItem_5 lkX5_addItem_77 rfl rfl dX5_addItem_68 ?_
        refine v_iconst C (z := 1) dX5_addItem_71 ?_
        refine v_isub C dX5_addItem_72 ?_
        exact v_xr (v_iret C hr hl () (by decide) (by decide) rfl ⟨(by (try simp only [Int.toNat_natCast]); rw [if_neg (by omega), if_neg (by omega)]), (congrArg iI (by omega))⟩ dX5_addItem_73)
      ·
        exact v_throw C X 1 xG_IS rfl xaX5_addItem_80 xbX5_addItem_80 xcX5_addItem_80 hl dX5_addItem_37 dX5_addItem_40 dX5_addItem_41 dX5_addItem_43 dX5_addItem_46 (by decide) (Nat.le_of_ble_eq_true rfl) (by decide) (by decide) (by decide) (by decide) rfl (xE2 (by (try simp only [Int.toNat_natCast]); rw [if_neg (by omega), if_pos (by omega)]) rfl)
    ·
      refine v_iload_n C dX5_addItem_12 rfl 1 rfl ?_
      refine v_bipush C (z := 115) dX5_addItem_13 rfl ?_
      refine v_icmp_eq C 28 dX5_addItem_15 (by decide) ⟨by omega, by omega⟩ (b31_lit _ rfl) (fun c_5 => ?_) (fun c_5 => ?_)
      ·
        refine v_aload_n C dX5_addItem_28 rfl 0 rfl ?_
        refine v_get C 0 (kf := 1) rfl rfl (by decide) inX5_addItem_5 lkX5_addItem_77 rfl rfl dX5_addItem_29 ?_
        refine v_bipush C (z := 12) dX5_addItem_32 rfl ?_
        refine v_icmp_lt C 47 dX5_addItem_34 (by decide) ⟨by omega, by omega⟩ (b31_lit _ rfl) (fun c_6 => ?_) (fun c_6 => ?_)
        ·
          refine v_aload_n C dX5_addItem_47 rfl 0 rfl ?_
          refine v_get C 0 (kf := 0) rfl rfl (by decide) inX5_addItem_5 lkX5_addItem_9 rfl rfl dX5_addItem_48 ?_
          refine v_aload_n C dX5_addItem_51 rfl 0 rfl ?_
          refine v_get C 0 (kf := 1) rfl rfl (by decide) inX5_addItem_5 lkX5_addItem_77 rfl rfl dX5_addItem_52 ?_
          refine v_iload_n C dX5_addItem_55 rfl 1 rfl ?_
          refine v_cast C 1 (ni) (wMA g ma m1 m2 m3 la tp qa sa ta ua (updZ kinds (ni) (x)) ni hds bc tgs ++ ([])) rfl rfl (by omega) (by decide) (chr_vp hxc.1 hxc.2) dX5_addItem_56 rfl ?_
          refine v_aload_n C dX5_addItem_57 rfl 0 rfl ?_
          refine v_dup C dX5_addItem_58 rfl ?_
          refine v_get C 0 (kf := 1) rfl rfl (by decide) inX5_addItem_5 lkX5_addItem_77 rfl rfl dX5_addItem_59 ?_
          refine v_iconst C (z := 1) dX5_addItem_62 ?_
          refine v_iadd C dX5_addItem_63 ?_
          rw [show (((ni : Nat) : Int)) + 1 = ((ni + 1 : Nat) : Int) from rfl]
          refine v_put C 0 (kf := 1) (wMA g ma m1 m2 m3 la tp qa sa ta ua (updZ kinds (ni) (x)) (ni + 1) hds bc tgs ++ ([])) rfl rfl (by decide) inX5_addItem_5 lkX5_addItem_77 rfl tyX5_ok nmX5 rfl rfl rfl (Nat.le_of_ble_eq_true rfl) dX5_addItem_64 rfl ?_
          refine v_aload_n C dX5_addItem_67 rfl 0 rfl ?_
          refine v_get C 0 (kf := 1) rfl rfl (by decide) inX5_addItem_5 lkX5_addItem_77 rfl rfl dX5_addItem_68 ?_
          refine v_iconst C (z := 1) dX5_addItem_71 ?_
          refine v_isub C dX5_addItem_72 ?_
          exact v_xr (v_iret C hr hl () (by decide) (by decide) rfl ⟨(by (try simp only [Int.toNat_natCast]); rw [if_neg (by omega), if_neg (by omega)]), (congrArg iI (by omega))⟩ dX5_addItem_73)
        ·
          exact v_throw C X 1 xG_IS rfl xaX5_addItem_80 xbX5_addItem_80 xcX5_addItem_80 hl dX5_addItem_37 dX5_addItem_40 dX5_addItem_41 dX5_addItem_43 dX5_addItem_46 (by decide) (Nat.le_of_ble_eq_true rfl) (by decide) (by decide) (by decide) (by decide) rfl (xE2 (by (try simp only [Int.toNat_natCast]); rw [if_neg (by omega), if_pos (by omega)]) rfl)
      ·
        exact v_throw C X 0 xG_IA rfl xaX5_addItem_70 xbX5_addItem_70 xcX5_addItem_70 hl dX5_addItem_18 dX5_addItem_21 dX5_addItem_22 dX5_addItem_24 dX5_addItem_27 (by decide) (Nat.le_of_ble_eq_true rfl) (by decide) (by decide) (by decide) (by decide) rfl (xE1 (by (try simp only [Int.toNat_natCast]); rw [if_pos (by omega)]) rfl)
theorem blm_lt {T : Nat → Nat} {first second : Nat → Int} (hf : ∀ k, -1 ≤ first k ∧ first k < 100) (hs : ∀ k, -1 ≤ second k ∧ second k < 100) (i : Nat) : ∀ (n j : Nat), j < 100 → blm T first second i n j < 100
  | 0, _, h => h
  | n + 1, j, h => by
    show (if _ then _ else _) < 100
    rcases fsp_or hf hs i j (T := T) with e | ⟨k, e, hk⟩
    · rw [if_pos e]; exact h
    · rw [if_neg (by rw [e]; omega), e]
      exact blm_lt hf hs i n k hk
/-- the first of the n first places with a property, or n -/
def fst (Z : Nat → Bool) : Nat → Nat
  | 0 => 0
  | n + 1 => if fst Z n < n then fst Z n else if Z n = true then n else n + 1
theorem fst_le (Z : Nat → Bool) : ∀ n, fst Z n ≤ n
  | 0 => Nat.le_refl _
  | n + 1 => by
    have h9 := fst_le Z n
    show (if _ then _ else _) ≤ _
    by_cases h : fst Z n < n
    · rw [if_pos h]; omega
    · rw [if_neg h]
      by_cases h2 : Z n = true
      · rw [if_pos h2]; omega
      · rw [if_neg h2]; exact Nat.le_refl _
theorem fst_miss {Z : Nat → Bool} {n : Nat} (h : fst Z n = n) (h2 : Z n = false) : fst Z (n + 1) = n + 1 := by
  show (if _ then _ else _) = _
  rw [if_neg (by omega), if_neg (by rw [h2]; exact Bool.false_ne_true)]
theorem fst_hit {Z : Nat → Bool} {n : Nat} (h : fst Z n = n) (h2 : Z n = true) : ∀ m, n < m → fst Z m = n := by
  intro m
  induction m with
  | zero => exact fun q => absurd q (Nat.not_lt_zero _)
  | succ m ih =>
    intro q
    rcases Nat.lt_or_ge n m with q2 | q2
    · have e := ih q2
      show (if _ then _ else _) = _
      rw [if_pos (by omega), e]
    · have e : n = m := by omega
      subst e
      show (if _ then _ else _) = _
      rw [if_neg (by omega), if_pos h2]
theorem inX5_firstConflict_5 : ∀ w ∈ u_ws RX5 TX5 11, w ∈ wsX5_firstConflict := by decide +kernel
theorem lkX5_firstConflict_77 : Cond.fieldLink RX5 77 "MergeAtelier" "itemCount" "I" ∈ wsX5_firstConflict := by decide +kernel
theorem xaX5_firstConflict_135 : Cond.classLink RX5 135 eNE ∈ wsX5_firstConflict := by decide +kernel
theorem xbX5_firstConflict_135 : Cond.initialized eNE ∈ wsX5_firstConflict := by decide +kernel
theorem xcX5_firstConflict_135 : ∀ w ∈ (vx_atS RX5 139 eNE exN).filter goodWord, w ∈ wsX5_firstConflict := by decide +kernel
theorem lkX5_firstConflict_59 : Cond.fieldLink RX5 59 "MergeAtelier" "kept" "LMergeAtelier$Table;" ∈ wsX5_firstConflict := by decide +kernel
set_option maxHeartbeats 4000000 in
set_option maxRecDepth 100000 in
theorem kX5_firstConflict (l : Launch) (g : vG) (sx : Nat → Nat) (hst : l.stackTraces = false) {ma m1 m2 m3 la tp qa sa ta ua : Nat} {kinds tgs : Nat → Int} {hds : Nat → Nat} {ni bc : Nat} {l1 l2 l3 l4 l5 l6 l7 l8 l9 : Nat} {deed item side picked qcnt An : Nat → Nat} {first second : Nat → Int} {cm : Nat} {tlo thi : Nat} {T : Nat → Nat} {x : Int} (hx : b31 x) (hni : ni ≤ 12) (hcm : cm ≤ 100) : xI l g sx yX5_firstConflict wsX5_firstConflict ({ frames := 7, cells := 1, slots := 6, locals := 111 }) [.ref (ma), .int (iI (x))] (wMA g ma m1 m2 m3 la tp qa sa ta ua kinds ni hds bc tgs ++ (wLog g la l1 l2 l3 l4 l5 l6 l7 l8 l9 deed first second item side picked qcnt An An cm ++ (wTab g ta tp tlo thi T T ++ ([])))) (fun _ : Unit => wMA g ma m1 m2 m3 la tp qa sa ta ua kinds ni hds bc tgs ++ (wLog g la l1 l2 l3 l4 l5 l6 l7 l8 l9 deed first second item side picked qcnt An An cm ++ (wTab g ta tp tlo thi T T ++ ([])))) (fun v _ => (if ¬ (0 ≤ x ∧ x < (cm : Int)) then 1 else if fst (fun i => decide (1 < cnt (T (12 * x.toNat + i)))) ni = ni then 2 else 0 : Nat) = 0 ∧ v = iI ((fst (fun i => decide (1 < cnt (T (12 * x.toNat + i)))) ni : Nat) : Int)) (fun E => xE [eIO, eNE] (if ¬ (0 ≤ x ∧ x < (cm : Int)) then 1 else if fst (fun i => decide (1 < cnt (T (12 * x.toNat + i)))) ni = ni then 2 else 0 : Nat) E) 1 6 := by
  refine x_of (Qc := fun A => va_Qi (fun v _ => (if ¬ (0 ≤ x ∧ x < (cm : Int)) then 1 else if fst (fun i => decide (1 < cnt (T (12 * x.toNat + i)))) ni = ni then 2 else 0 : Nat) = 0 ∧ v = iI ((fst (fun i => decide (1 < cnt (T (12 * x.toNat + i)))) ni : Nat) : Int)) (mB g (fun _ : Unit => wMA g ma m1 m2 m3 la tp qa sa ta ua kinds ni hds bc tgs ++ (wLog g la l1 l2 l3 l4 l5 l6 l7 l8 l9 deed first second item side picked qcnt An An cm ++ (wTab g ta tp tlo thi T T ++ ([])))) A) A) (cc := cX5_firstConflict) (maxL := 3) (ret := (some .int)) (own := RX5) hst (by decide) rfl rfl (Nat.le_of_ble_eq_true rfl) ?_
  intro p e s m args below meth c A C X hr hl
  have hx1 := hx.1
  have hx2 := hx.2
  refine v_aload_n C dX5_firstConflict_0 rfl 0 rfl ?_
  refine v_iload_n C dX5_firstConflict_1 rfl 1 rfl ?_
  by_cases q_1 : 0 ≤ x ∧ x < ((cm : Nat) : Int)
  rotate_left
  ·
    refine v_xinvV C X (As := [.int (iI (x))]) (q0 := 0) (ci := 5) (kX5_requireCommit_bad l g sx hst (ma := ma) (m1 := m1) (m2 := m2) (m3 := m3) (la := la) (tp := tp) (qa := qa) (sa := sa) (ta := ta) (ua := ua) (kinds := kinds) (ni := ni) (hds := hds) (bc := bc) (tgs := tgs) (l1 := l1) (l2 := l2) (l3 := l3) (l4 := l4) (l5 := l5) (l6 := l6) (l7 := l7) (l8 := l8) (l9 := l9) (deed := deed) (item := item) (side := side) (picked := picked) (qcnt := qcnt) (An := An) (first := first) (second := second) (cm := cm) (x := x) ⟨by omega, by omega⟩ (by omega) (by omega)) (cwV 1 C.2.2.2.2.1 gX5_firstConflict_X5_requireCommit rfl rfl rfl (by decide +kernel) ⟨Nat.le_of_ble_eq_true rfl, Nat.le_of_ble_eq_true rfl⟩) [wMA g ma m1 m2 m3 la tp qa sa ta ua kinds ni hds bc tgs, wLog g la l1 l2 l3 l4 l5 l6 l7 l8 l9 deed first second item side picked qcnt An An cm, wTab g ta tp tlo thi T T] [0, 1] [2] [] (fun _ => [wMA g ma m1 m2 m3 la tp qa sa ta ua kinds ni hds bc tgs, wLog g la l1 l2 l3 l4 l5 l6 l7 l8 l9 deed first second item side picked qcnt An An cm, wTab g ta tp tlo thi T T]) (fun _ => wMA g ma m1 m2 m3 la tp qa sa ta ua kinds ni hds bc tgs ++ (wLog g la l1 l2 l3 l4 l5 l6 l7 l8 l9 deed first second item side picked qcnt An An cm ++ (wTab g ta tp tlo thi T T ++ ([])))) rfl rfl rfl (fun _ => rfl) (fun _ => rfl) (fun _ => rfl) (fun _ => rfl) rfl rfl rfl rfl rfl (Nat.le_of_ble_eq_true rfl) hl rfl (fun E h => h ▸ (xE1 (by (try simp only [Int.toNat_natCast]); rw [if_pos (by omega)]) rfl)) dX5_firstConflict_2 ⟨by decide, by decide⟩ ⟨by decide, by decide⟩ (fun _ hff => hff.elim)
  obtain ⟨x0, rfl⟩ : ∃ i : Nat, x = (i : Int) := ⟨(x).toNat, by omega⟩
  have hx0 : x0 < cm := by omega
  refine v_invVV C (As := [.int (iI ((x0 : Nat) : Int))]) (q0 := 0) (ci := 5) (kX5_requireCommit_ok l g (ma := ma) (m1 := m1) (m2 := m2) (m3 := m3) (la := la) (tp := tp) (qa := qa) (sa := sa) (ta := ta) (ua := ua) (kinds := kinds) (ni := ni) (hds := hds) (bc := bc) (tgs := tgs) (l1 := l1) (l2 := l2) (l3 := l3) (l4 := l4) (l5 := l5) (l6 := l6) (l7 := l7) (l8 := l8) (l9 := l9) (deed := deed) (item := item) (side := side) (picked := picked) (qcnt := qcnt) (An := An) (first := first) (second := second) (cm := cm) (i0 := x0) (by omega) (by omega)) (cwV 1 C.2.2.2.2.1 gX5_firstConflict_X5_requireCommit rfl rfl rfl (by decide +kernel) ⟨Nat.le_of_ble_eq_true rfl, Nat.le_of_ble_eq_true rfl⟩) [wMA g ma m1 m2 m3 la tp qa sa ta ua kinds ni hds bc tgs, wLog g la l1 l2 l3 l4 l5 l6 l7 l8 l9 deed first second item side picked qcnt An An cm, wTab g ta tp tlo thi T T] [0, 1] [2] [] (fun _ => [wMA g ma m1 m2 m3 la tp qa sa ta ua kinds ni hds bc tgs, wLog g la l1 l2 l3 l4 l5 l6 l7 l8 l9 deed first second item side picked qcnt An An cm, wTab g ta tp tlo thi T T]) (fun _ => wMA g ma m1 m2 m3 la tp qa sa ta ua kinds ni hds bc tgs ++ (wLog g la l1 l2 l3 l4 l5 l6 l7 l8 l9 deed first second item side picked qcnt An An cm ++ (wTab g ta tp tlo thi T T ++ ([])))) rfl rfl rfl (fun _ => rfl) (fun _ => rfl) (fun _ => rfl) (fun _ => rfl) rfl rfl rfl rfl rfl (Nat.le_of_ble_eq_true rfl) dX5_firstConflict_2 ⟨by decide, by decide⟩ (fun _ h_4 => ?_)
  refine v_iconst C (z := 0) dX5_firstConflict_5 ?_
  refine v_istore_n C [(2, .int (iI (0))), (0, .ref (ma)), (1, .int (iI ((x0 : Nat) : Int)))] dX5_firstConflict_6 rfl (by decide) rfl ?_
  refine v_lv (lv' := [(0, .ref (ma)), (1, .int (iI ((x0 : Nat) : Int))), (2, .int (iI ((0 : Nat) : Int)))]) [1, 2, 0] rfl ?_
  refine v_lp1 (X := Nat) (fun i => wMA g ma m1 m2 m3 la tp qa sa ta ua kinds ni hds bc tgs ++ (wLog g la l1 l2 l3 l4 l5 l6 l7 l8 l9 deed first second item side picked qcnt An An cm ++ (wTab g ta tp tlo thi T T ++ ([])))) (fun i => [(0, .ref (ma)), (1, .int (iI ((x0 : Nat) : Int))), (2, .int (iI ((i : Nat) : Int)))]) (fun i => ni - i) (fun i => i ≤ ni ∧ fst (fun i => decide (1 < cnt (T (12 * x0 + i)))) i = i) ?_ (0) ⟨Nat.zero_le _, rfl⟩
  intro i hJ7 ih7
  try dsimp only at hJ7 ⊢
  refine v_iload_n C dX5_firstConflict_7 rfl 2 rfl ?_
  refine v_aload_n C dX5_firstConflict_8 rfl 0 rfl ?_
  refine v_get C 0 (kf := 1) rfl rfl (by decide) inX5_firstConflict_5 lkX5_firstConflict_77 rfl rfl dX5_firstConflict_9 ?_
  refine v_icmp_ge C 35 dX5_firstConflict_12 (by decide) ⟨by omega, by omega⟩ ⟨by omega, by omega⟩ (fun c_6 => ?_) (fun c_6 => ?_)
  ·
    obtain rfl : ni = i := by omega
    exact v_throw C X 8 xG_NE rfl xaX5_firstConflict_135 xbX5_firstConflict_135 xcX5_firstConflict_135 hl dX5_firstConflict_35 dX5_firstConflict_38 dX5_firstConflict_39 dX5_firstConflict_41 dX5_firstConflict_44 (by decide) (Nat.le_of_ble_eq_true rfl) (by decide) (by decide) (by decide) (by decide) rfl (xE2 (by (try simp only [Int.toNat_natCast]); rw [if_neg (by omega), if_pos hJ7.2]) rfl)
  ·
    refine v_aload_n C dX5_firstConflict_15 rfl 0 rfl ?_
    refine v_get C 0 (kf := 9) rfl rfl (by decide) inX5_firstConflict_5 lkX5_firstConflict_59 rfl rfl dX5_firstConflict_16 ?_
    refine v_iload_n C dX5_firstConflict_19 rfl 1 rfl ?_
    refine v_iload_n C dX5_firstConflict_20 rfl 2 rfl ?_
    refine v_invVI C (As := [.int (iI ((x0 : Nat) : Int)), .int (iI ((i : Nat) : Int))]) (q0 := 0) (ci := 4) (kX4_holdsConflict l g (ta := ta) (tp := tp) (tlo := tlo) (thi := thi) (T := T) (r0 := x0) (i0 := i) (by omega) (by omega)) (cwV 2 C.2.2.2.2.1 gX5_firstConflict_X4_holdsConflict rfl rfl rfl (by decide +kernel) ⟨Nat.le_of_ble_eq_true rfl, Nat.le_of_ble_eq_true rfl⟩) [wMA g ma m1 m2 m3 la tp qa sa ta ua kinds ni hds bc tgs, wLog g la l1 l2 l3 l4 l5 l6 l7 l8 l9 deed first second item side picked qcnt An An cm, wTab g ta tp tlo thi T T] [2] [0, 1] [] (fun _ => [wMA g ma m1 m2 m3 la tp qa sa ta ua kinds ni hds bc tgs, wLog g la l1 l2 l3 l4 l5 l6 l7 l8 l9 deed first second item side picked qcnt An An cm, wTab g ta tp tlo thi T T]) (fun _ => wMA g ma m1 m2 m3 la tp qa sa ta ua kinds ni hds bc tgs ++ (wLog g la l1 l2 l3 l4 l5 l6 l7 l8 l9 deed first second item side picked qcnt An An cm ++ (wTab g ta tp tlo thi T T ++ ([])))) rfl rfl rfl (fun _ => rfl) (fun _ => rfl) (fun _ => rfl) (fun _ => rfl) rfl rfl rfl rfl rfl (Nat.le_of_ble_eq_true rfl) dX5_firstConflict_21 ⟨by decide, by decide⟩ (fun r_8 _ h_7 => ?_)
    subst h_7
    refine v_ifz_eq C 29 dX5_firstConflict_24 (by decide) (fun c_9 => ?_) (fun c_9 => ?_)
    ·
      refine v_iinc C [(2, .int (iI (((i : Nat) : Int) + 1))), (0, .ref (ma)), (1, .int (iI ((x0 : Nat) : Int)))] dX5_firstConflict_29 2 rfl (by decide) rfl ?_
      rw [show ((i : Nat) : Int) + 1 = ((i + 1 : Nat) : Int) from rfl]
      refine v_goto C 7 dX5_firstConflict_32 (by decide) ?_
      refine v_lv (lv' := [(0, .ref (ma)), (1, .int (iI ((x0 : Nat) : Int))), (2, .int (iI ((i + 1 : Nat) : Int)))]) [1, 2, 0] rfl ?_
      exact ih7 (i + 1) ⟨by omega, fst_miss hJ7.2 c_9⟩ (by omega)
    ·
      have hfh := fst_hit hJ7.2 c_9 ni (by omega)
      refine v_iload_n C dX5_firstConflict_27 rfl 2 rfl ?_
      exact v_xr (v_iret C hr hl () (by decide) (by decide) rfl ⟨(by (try simp only [Int.toNat_natCast]); rw [if_neg (by omega), if_neg (by rw [hfh]; omega)]), (congrArg iI (by rw [show (((x0 : Nat) : Int)).toNat = x0 from rfl, hfh]))⟩ dX5_firstConflict_28)
theorem inX5_blamed_5 : ∀ w ∈ u_ws RX5 TX5 11, w ∈ wsX5_blamed := by decide +kernel
theorem lkX5_blamed_77 : Cond.fieldLink RX5 77 "MergeAtelier" "itemCount" "I" ∈ wsX5_blamed := by decide +kernel
set_option maxHeartbeats 4000000 in
set_option maxRecDepth 100000 in
theorem kX5_blamed (l : Launch) (g : vG) (sx : Nat → Nat) (hst : l.stackTraces = false) {ma m1 m2 m3 la tp qa sa ta ua : Nat} {kinds tgs : Nat → Int} {hds : Nat → Nat} {ni bc : Nat} {l1 l2 l3 l4 l5 l6 l7 l8 l9 : Nat} {deed item side picked qcnt An : Nat → Nat} {first second : Nat → Int} {cm : Nat} {tlo thi : Nat} {T : Nat → Nat} {x y : Int} (hx : b31 x) (hy : b31 y) (hni : ni ≤ 12) (hcm : cm ≤ 100) (hf : ∀ k, -1 ≤ first k ∧ first k < 100) (hs : ∀ k, -1 ≤ second k ∧ second k < 100) (hT : T128 T) : xI l g sx yX5_blamed wsX5_blamed ({ frames := 7, cells := 1, slots := 6, locals := 111 }) [.ref (ma), .int (iI (x)), .int (iI (y))] (wMA g ma m1 m2 m3 la tp qa sa ta ua kinds ni hds bc tgs ++ (wLog g la l1 l2 l3 l4 l5 l6 l7 l8 l9 deed first second item side picked qcnt An An cm ++ (wTab g ta tp tlo thi T T ++ ([])))) (fun _ : Unit => wMA g ma m1 m2 m3 la tp qa sa ta ua kinds ni hds bc tgs ++ (wLog g la l1 l2 l3 l4 l5 l6 l7 l8 l9 deed first second item side picked qcnt An An cm ++ (wTab g ta tp tlo thi T T ++ ([])))) (fun v _ => (if ¬ (0 ≤ x ∧ x < (cm : Int) ∧ 0 ≤ y ∧ y < (cm : Int)) then 1 else 0 : Nat) = 0 ∧ v = iI ((fb_ct (fun i => decide (((blm T first second i 100 x.toNat : Nat) : Int) = y)) ni : Nat) : Int)) (fun E => xE [eIO] (if ¬ (0 ≤ x ∧ x < (cm : Int) ∧ 0 ≤ y ∧ y < (cm : Int)) then 1 else 0 : Nat) E) 1 6 := by
  refine x_of (Qc := fun A => va_Qi (fun v _ => (if ¬ (0 ≤ x ∧ x < (cm : Int) ∧ 0 ≤ y ∧ y < (cm : Int)) then 1 else 0 : Nat) = 0 ∧ v = iI ((fb_ct (fun i => decide (((blm T first second i 100 x.toNat : Nat) : Int) = y)) ni : Nat) : Int)) (mB g (fun _ : Unit => wMA g ma m1 m2 m3 la tp qa sa ta ua kinds ni hds bc tgs ++ (wLog g la l1 l2 l3 l4 l5 l6 l7 l8 l9 deed first second item side picked qcnt An An cm ++ (wTab g ta tp tlo thi T T ++ ([])))) A) A) (cc := cX5_blamed) (maxL := 5) (ret := (some .int)) (own := RX5) hst (by decide) rfl rfl (Nat.le_of_ble_eq_true rfl) ?_
  intro p e s m args below meth c A C X hr hl
  have hx1 := hx.1
  have hx2 := hx.2
  have hy1 := hy.1
  have hy2 := hy.2
  refine v_aload_n C dX5_blamed_0 rfl 0 rfl ?_
  refine v_iload_n C dX5_blamed_1 rfl 1 rfl ?_
  by_cases q_1 : 0 ≤ x ∧ x < ((cm : Nat) : Int)
  rotate_left
  ·
    refine v_xinvV C X (As := [.int (iI (x))]) (q0 := 0) (ci := 5) (kX5_requireCommit_bad l g sx hst (ma := ma) (m1 := m1) (m2 := m2) (m3 := m3) (la := la) (tp := tp) (qa := qa) (sa := sa) (ta := ta) (ua := ua) (kinds := kinds) (ni := ni) (hds := hds) (bc := bc) (tgs := tgs) (l1 := l1) (l2 := l2) (l3 := l3) (l4 := l4) (l5 := l5) (l6 := l6) (l7 := l7) (l8 := l8) (l9 := l9) (deed := deed) (item := item) (side := side) (picked := picked) (qcnt := qcnt) (An := An) (first := first) (second := second) (cm := cm) (x := x) ⟨by omega, by omega⟩ (by omega) (by omega)) (cwV 1 C.2.2.2.2.1 gX5_blamed_X5_requireCommit rfl rfl rfl (by decide +kernel) ⟨Nat.le_of_ble_eq_true rfl, Nat.le_of_ble_eq_true rfl⟩) [wMA g ma m1 m2 m3 la tp qa sa ta ua kinds ni hds bc tgs, wLog g la l1 l2 l3 l4 l5 l6 l7 l8 l9 deed first second item side picked qcnt An An cm, wTab g ta tp tlo thi T T] [0, 1] [2] [] (fun _ => [wMA g ma m1 m2 m3 la tp qa sa ta ua kinds ni hds bc tgs, wLog g la l1 l2 l3 l4 l5 l6 l7 l8 l9 deed first second item side picked qcnt An An cm, wTab g ta tp tlo thi T T]) (fun _ => wMA g ma m1 m2 m3 la tp qa sa ta ua kinds ni hds bc tgs ++ (wLog g la l1 l2 l3 l4 l5 l6 l7 l8 l9 deed first second item side picked qcnt An An cm ++ (wTab g ta tp tlo thi T T ++ ([])))) rfl rfl rfl (fun _ => rfl) (fun _ => rfl) (fun _ => rfl) (fun _ => rfl) rfl rfl rfl rfl rfl (Nat.le_of_ble_eq_true rfl) hl rfl (fun E h => h ▸ (xE1 (by (try simp only [Int.toNat_natCast]); rw [if_pos (by omega)]) rfl)) dX5_blamed_2 ⟨by decide, by decide⟩ ⟨by decide, by decide⟩ (fun _ hff => hff.elim)
  obtain ⟨x0, rfl⟩ : ∃ i : Nat, x = (i : Int) := ⟨(x).toNat, by omega⟩
  have hx0 : x0 < cm := by omega
  refine v_invVV C (As := [.int (iI ((x0 : Nat) : Int))]) (q0 := 0) (ci := 5) (kX5_requireCommit_ok l g (ma := ma) (m1 := m1) (m2 := m2) (m3 := m3) (la := la) (tp := tp) (qa := qa) (sa := sa) (ta := ta) (ua := ua) (kinds := kinds) (ni := ni) (hds := hds) (bc := bc) (tgs := tgs) (l1 := l1) (l2 := l2) (l3 := l3) (l4 := l4) (l5 := l5) (l6 := l6) (l7 := l7) (l8 := l8) (l9 := l9) (deed := deed) (item := item) (side := side) (picked := picked) (qcnt := qcnt) (An := An) (first := first) (second := second) (cm := cm) (i0 := x0) (by omega) (by omega)) (cwV 1 C.2.2.2.2.1 gX5_blamed_X5_requireCommit rfl rfl rfl (by decide +kernel) ⟨Nat.le_of_ble_eq_true rfl, Nat.le_of_ble_eq_true rfl⟩) [wMA g ma m1 m2 m3 la tp qa sa ta ua kinds ni hds bc tgs, wLog g la l1 l2 l3 l4 l5 l6 l7 l8 l9 deed first second item side picked qcnt An An cm, wTab g ta tp tlo thi T T] [0, 1] [2] [] (fun _ => [wMA g ma m1 m2 m3 la tp qa sa ta ua kinds ni hds bc tgs, wLog g la l1 l2 l3 l4 l5 l6 l7 l8 l9 deed first second item side picked qcnt An An cm, wTab g ta tp tlo thi T T]) (fun _ => wMA g ma m1 m2 m3 la tp qa sa ta ua kinds ni hds bc tgs ++ (wLog g la l1 l2 l3 l4 l5 l6 l7 l8 l9 deed first second item side picked qcnt An An cm ++ (wTab g ta tp tlo thi T T ++ ([])))) rfl rfl rfl (fun _ => rfl) (fun _ => rfl) (fun _ => rfl) (fun _ => rfl) rfl rfl rfl rfl rfl (Nat.le_of_ble_eq_true rfl) dX5_blamed_2 ⟨by decide, by decide⟩ (fun _ h_4 => ?_)
  refine v_aload_n C dX5_blamed_5 rfl 0 rfl ?_
  refine v_iload_n C dX5_blamed_6 rfl 2 rfl ?_
  by_cases q_6 : 0 ≤ y ∧ y < ((cm : Nat) : Int)
  rotate_left
  ·
    refine v_xinvV C X (As := [.int (iI (y))]) (q0 := 0) (ci := 5) (kX5_requireCommit_bad l g sx hst (ma := ma) (m1 := m1) (m2 := m2) (m3 := m3) (la := la) (tp := tp) (qa := qa) (sa := sa) (ta := ta) (ua := ua) (kinds := kinds) (ni := ni) (hds := hds) (bc := bc) (tgs := tgs) (l1 := l1) (l2 := l2) (l3 := l3) (l4 := l4) (l5 := l5) (l6 := l6) (l7 := l7) (l8 := l8) (l9 := l9) (deed := deed) (item := item) (side := side) (picked := picked) (qcnt := qcnt) (An := An) (first := first) (second := second) (cm := cm) (x := y) ⟨by omega, by omega⟩ (by omega) (by omega)) (cwV 1 C.2.2.2.2.1 gX5_blamed_X5_requireCommit rfl rfl rfl (by decide +kernel) ⟨Nat.le_of_ble_eq_true rfl, Nat.le_of_ble_eq_true rfl⟩) [wMA g ma m1 m2 m3 la tp qa sa ta ua kinds ni hds bc tgs, wLog g la l1 l2 l3 l4 l5 l6 l7 l8 l9 deed first second item side picked qcnt An An cm, wTab g ta tp tlo thi T T] [0, 1] [2] [] (fun _ => [wMA g ma m1 m2 m3 la tp qa sa ta ua kinds ni hds bc tgs, wLog g la l1 l2 l3 l4 l5 l6 l7 l8 l9 deed first second item side picked qcnt An An cm, wTab g ta tp tlo thi T T]) (fun _ => wMA g ma m1 m2 m3 la tp qa sa ta ua kinds ni hds bc tgs ++ (wLog g la l1 l2 l3 l4 l5 l6 l7 l8 l9 deed first second item side picked qcnt An An cm ++ (wTab g ta tp tlo thi T T ++ ([])))) rfl rfl rfl (fun _ => rfl) (fun _ => rfl) (fun _ => rfl) (fun _ => rfl) rfl rfl rfl rfl rfl (Nat.le_of_ble_eq_true rfl) hl rfl (fun E h => h ▸ (xE1 (by (try simp only [Int.toNat_natCast]); rw [if_pos (by omega)]) rfl)) dX5_blamed_7 ⟨by decide, by decide⟩ ⟨by decide, by decide⟩ (fun _ hff => hff.elim)
  obtain ⟨y0, rfl⟩ : ∃ i : Nat, y = (i : Int) := ⟨(y).toNat, by omega⟩
  have hy0 : y0 < cm := by omega
  refine v_invVV C (As := [.int (iI ((y0 : Nat) : Int))]) (q0 := 0) (ci := 5) (kX5_requireCommit_ok l g (ma := ma) (m1 := m1) (m2 := m2) (m3 := m3) (la := la) (tp := tp) (qa := qa) (sa := sa) (ta := ta) (ua := ua) (kinds := kinds) (ni := ni) (hds := hds) (bc := bc) (tgs := tgs) (l1 := l1) (l2 := l2) (l3 := l3) (l4 := l4) (l5 := l5) (l6 := l6) (l7 := l7) (l8 := l8) (l9 := l9) (deed := deed) (item := item) (side := side) (picked := picked) (qcnt := qcnt) (An := An) (first := first) (second := second) (cm := cm) (i0 := y0) (by omega) (by omega)) (cwV 1 C.2.2.2.2.1 gX5_blamed_X5_requireCommit rfl rfl rfl (by decide +kernel) ⟨Nat.le_of_ble_eq_true rfl, Nat.le_of_ble_eq_true rfl⟩) [wMA g ma m1 m2 m3 la tp qa sa ta ua kinds ni hds bc tgs, wLog g la l1 l2 l3 l4 l5 l6 l7 l8 l9 deed first second item side picked qcnt An An cm, wTab g ta tp tlo thi T T] [0, 1] [2] [] (fun _ => [wMA g ma m1 m2 m3 la tp qa sa ta ua kinds ni hds bc tgs, wLog g la l1 l2 l3 l4 l5 l6 l7 l8 l9 deed first second item side picked qcnt An An cm, wTab g ta tp tlo thi T T]) (fun _ => wMA g ma m1 m2 m3 la tp qa sa ta ua kinds ni hds bc tgs ++ (wLog g la l1 l2 l3 l4 l5 l6 l7 l8 l9 deed first second item side picked qcnt An An cm ++ (wTab g ta tp tlo thi T T ++ ([])))) rfl rfl rfl (fun _ => rfl) (fun _ => rfl) (fun _ => rfl) (fun _ => rfl) rfl rfl rfl rfl rfl (Nat.le_of_ble_eq_true rfl) dX5_blamed_7 ⟨by decide, by decide⟩ (fun _ h_9 => ?_)
  refine v_iconst C (z := 0) dX5_blamed_10 ?_
  refine v_istore_n C [(3, .int (iI (0))), (0, .ref (ma)), (1, .int (iI ((x0 : Nat) : Int))), (2, .int (iI ((y0 : Nat) : Int)))] dX5_blamed_11 rfl (by decide) rfl ?_
  refine v_iconst C (z := 0) dX5_blamed_12 ?_
  refine v_istore C [(4, .int (iI (0))), (3, .int (iI (0))), (0, .ref (ma)), (1, .int (iI ((x0 : Nat) : Int))), (2, .int (iI ((y0 : Nat) : Int)))] dX5_blamed_13 (by decide) rfl ?_
  refine v_lv (lv' := [(0, .ref (ma)), (1, .int (iI ((x0 : Nat) : Int))), (2, .int (iI ((y0 : Nat) : Int))), (3, .int (iI ((fb_ct (fun i => decide (((blm T first second i 100 x0 : Nat) : Int) = ((y0 : Nat) : Int))) 0 : Nat) : Int))), (4, .int (iI ((0 : Nat) : Int)))]) [2, 3, 4, 1, 0] rfl ?_
  refine v_lp1 (X := Nat) (fun i => wMA g ma m1 m2 m3 la tp qa sa ta ua kinds ni hds bc tgs ++ (wLog g la l1 l2 l3 l4 l5 l6 l7 l8 l9 deed first second item side picked qcnt An An cm ++ (wTab g ta tp tlo thi T T ++ ([])))) (fun i => [(0, .ref (ma)), (1, .int (iI ((x0 : Nat) : Int))), (2, .int (iI ((y0 : Nat) : Int))), (3, .int (iI ((fb_ct (fun i => decide (((blm T first second i 100 x0 : Nat) : Int) = ((y0 : Nat) : Int))) i : Nat) : Int))), (4, .int (iI ((i : Nat) : Int)))]) (fun i => ni - i) (fun i => i ≤ ni) ?_ (0) (Nat.zero_le _)
  intro i hJ15 ih15
  try dsimp only at hJ15 ⊢
  refine v_iload C dX5_blamed_15 4 rfl ?_
  refine v_aload_n C dX5_blamed_17 rfl 0 rfl ?_
  refine v_get C 0 (kf := 1) rfl rfl (by decide) inX5_blamed_5 lkX5_blamed_77 rfl rfl dX5_blamed_18 ?_
  refine v_icmp_ge C 44 dX5_blamed_21 (by decide) ⟨by omega, by omega⟩ ⟨by omega, by omega⟩ (fun c_11 => ?_) (fun c_11 => ?_)
  ·
    obtain rfl : ni = i := by omega
    refine v_iload_n C dX5_blamed_44 rfl 3 rfl ?_
    exact v_xr (v_iret C hr hl () (by decide) (by decide) rfl ⟨(by (try simp only [Int.toNat_natCast]); rw [if_neg (by omega)]), rfl⟩ dX5_blamed_45)
  ·
    refine v_aload_n C dX5_blamed_24 rfl 0 rfl ?_
    refine v_iload_n C dX5_blamed_25 rfl 1 rfl ?_
    refine v_iload C dX5_blamed_26 4 rfl ?_
    refine v_invVI C (As := [.int (iI ((x0 : Nat) : Int)), .int (iI ((i : Nat) : Int))]) (q0 := 0) (ci := 5) (kX5_findBlame l g (ma := ma) (m1 := m1) (m2 := m2) (m3 := m3) (la := la) (tp := tp) (qa := qa) (sa := sa) (ta := ta) (ua := ua) (kinds := kinds) (ni := ni) (hds := hds) (bc := bc) (tgs := tgs) (l1 := l1) (l2 := l2) (l3 := l3) (l4 := l4) (l5 := l5) (l6 := l6) (l7 := l7) (l8 := l8) (l9 := l9) (deed := deed) (item := item) (side := side) (picked := picked) (qcnt := qcnt) (An := An) (first := first) (second := second) (cm := cm) (tlo := tlo) (thi := thi) (T := T) (c0 := x0) (i0 := i) (by omega) (by omega) hf hs hT) (cwV 2 C.2.2.2.2.1 gX5_blamed_X5_findBlame rfl rfl rfl (by decide +kernel) ⟨Nat.le_of_ble_eq_true rfl, Nat.le_of_ble_eq_true rfl⟩) [wMA g ma m1 m2 m3 la tp qa sa ta ua kinds ni hds bc tgs, wLog g la l1 l2 l3 l4 l5 l6 l7 l8 l9 deed first second item side picked qcnt An An cm, wTab g ta tp tlo thi T T] [0, 1, 2] [] [] (fun _ => [wMA g ma m1 m2 m3 la tp qa sa ta ua kinds ni hds bc tgs, wLog g la l1 l2 l3 l4 l5 l6 l7 l8 l9 deed first second item side picked qcnt An An cm, wTab g ta tp tlo thi T T]) (fun _ => wMA g ma m1 m2 m3 la tp qa sa ta ua kinds ni hds bc tgs ++ (wLog g la l1 l2 l3 l4 l5 l6 l7 l8 l9 deed first second item side picked qcnt An An cm ++ (wTab g ta tp tlo thi T T ++ ([])))) rfl rfl rfl (fun _ => rfl) (fun _ => rfl) (fun _ => rfl) (fun _ => rfl) rfl rfl rfl rfl rfl (Nat.le_of_ble_eq_true rfl) dX5_blamed_28 ⟨by decide, by decide⟩ (fun r_13 _ h_12 => ?_)
    subst h_12
    have hb9 := blm_lt hf hs i 100 x0 (by omega : x0 < 100) (T := T)
    refine v_iload_n C dX5_blamed_31 rfl 2 rfl ?_
    refine v_icmp_ne C 38 dX5_blamed_32 (by decide) ⟨by omega, by omega⟩ ⟨by omega, by omega⟩ (fun c_14 => ?_) (fun c_14 => ?_)
    ·
      refine v_iinc C [(4, .int (iI (((i : Nat) : Int) + 1))), (0, .ref (ma)), (1, .int (iI ((x0 : Nat) : Int))), (2, .int (iI ((y0 : Nat) : Int))), (3, .int (iI ((fb_ct (fun i => decide (((blm T first second i 100 x0 : Nat) : Int) = ((y0 : Nat) : Int))) i : Nat) : Int)))] dX5_blamed_38 4 rfl (by decide) rfl ?_
      rw [show ((i : Nat) : Int) + 1 = ((i + 1 : Nat) : Int) from rfl]
      refine v_goto C 15 dX5_blamed_41 (by decide) ?_
      refine v_lv (lv' := [(0, .ref (ma)), (1, .int (iI ((x0 : Nat) : Int))), (2, .int (iI ((y0 : Nat) : Int))), (3, .int (iI ((fb_ct (fun i => decide (((blm T first second i 100 x0 : Nat) : Int) = ((y0 : Nat) : Int))) i : Nat) : Int))), (4, .int (iI ((i + 1 : Nat) : Int)))]) [1, 2, 3, 4, 0] rfl ?_
      rw [show ((fb_ct (fun i => decide (((blm T first second i 100 x0 : Nat) : Int) = ((y0 : Nat) : Int))) i : Nat) : Int) = ((fb_ct (fun i => decide (((blm T first second i 100 x0 : Nat) : Int) = ((y0 : Nat) : Int))) (i + 1) : Nat) : Int) from (ct_fz (decide_eq_false c_14))]
      exact ih15 (i + 1) (by omega) (by omega)
    ·
      refine v_iinc C [(3, .int (iI (((fb_ct (fun i => decide (((blm T first second i 100 x0 : Nat) : Int) = ((y0 : Nat) : Int))) i : Nat) : Int) + 1))), (0, .ref (ma)), (1, .int (iI ((x0 : Nat) : Int))), (2, .int (iI ((y0 : Nat) : Int))), (4, .int (iI ((i : Nat) : Int)))] dX5_blamed_35 3 rfl (by decide) rfl ?_
      rw [show ((fb_ct (fun i => decide (((blm T first second i 100 x0 : Nat) : Int) = ((y0 : Nat) : Int))) i : Nat) : Int) + 1 = ((fb_ct (fun i => decide (((blm T first second i 100 x0 : Nat) : Int) = ((y0 : Nat) : Int))) i + 1 : Nat) : Int) from rfl]
      refine v_iinc C [(4, .int (iI (((i : Nat) : Int) + 1))), (3, .int (iI ((fb_ct (fun i => decide (((blm T first second i 100 x0 : Nat) : Int) = ((y0 : Nat) : Int))) i + 1 : Nat) : Int))), (0, .ref (ma)), (1, .int (iI ((x0 : Nat) : Int))), (2, .int (iI ((y0 : Nat) : Int)))] dX5_blamed_38 4 rfl (by decide) rfl ?_
      rw [show ((i : Nat) : Int) + 1 = ((i + 1 : Nat) : Int) from rfl]
      refine v_goto C 15 dX5_blamed_41 (by decide) ?_
      refine v_lv (lv' := [(0, .ref (ma)), (1, .int (iI ((x0 : Nat) : Int))), (2, .int (iI ((y0 : Nat) : Int))), (3, .int (iI ((fb_ct (fun i => decide (((blm T first second i 100 x0 : Nat) : Int) = ((y0 : Nat) : Int))) i + 1 : Nat) : Int))), (4, .int (iI ((i + 1 : Nat) : Int)))]) [2, 3, 4, 1, 0] rfl ?_
      rw [show ((fb_ct (fun i => decide (((blm T first second i 100 x0 : Nat) : Int) = ((y0 : Nat) : Int))) i + 1 : Nat) : Int) = ((fb_ct (fun i => decide (((blm T first second i 100 x0 : Nat) : Int) = ((y0 : Nat) : Int))) (i + 1) : Nat) : Int) from (ct_tz (decide_eq_true c_14))]
      exact ih15 (i + 1) (by omega) (by omega)
theorem xaX5_isBroken_199 : Cond.classLink RX5 199 eIO ∈ wsX5_isBroken := by decide +kernel
theorem xbX5_isBroken_199 : Cond.initialized eIO ∈ wsX5_isBroken := by decide +kernel
theorem xcX5_isBroken_199 : ∀ w ∈ (vx_atS RX5 203 eIO exN).filter goodWord, w ∈ wsX5_isBroken := by decide +kernel
theorem inX5_isBroken_5 : ∀ w ∈ u_ws RX5 TX5 11, w ∈ wsX5_isBroken := by decide +kernel
theorem lkX5_isBroken_41 : Cond.fieldLink RX5 41 "MergeAtelier" "quotes" "LMergeAtelier$Quotes;" ∈ wsX5_isBroken := by decide +kernel
theorem inX5_isBroken_2 : ∀ w ∈ u_ws RX2 TX2 4, w ∈ wsX5_isBroken := by decide +kernel
theorem lkX5_isBroken_179 : Cond.fieldLink RX5 179 "MergeAtelier$Quotes" "count" "I" ∈ wsX5_isBroken := by decide +kernel
theorem lkX5_isBroken_59 : Cond.fieldLink RX5 59 "MergeAtelier" "kept" "LMergeAtelier$Table;" ∈ wsX5_isBroken := by decide +kernel
set_option maxHeartbeats 4000000 in
set_option maxRecDepth 100000 in
theorem kX5_isBroken (l : Launch) (g : vG) (sx : Nat → Nat) (hst : l.stackTraces = false) {ma m1 m2 m3 la tp qa sa ta ua : Nat} {kinds tgs : Nat → Int} {hds : Nat → Nat} {ni bc : Nat} {l1 l2 l3 l4 l5 l6 l7 l8 l9 : Nat} {deed item side picked qcnt An : Nat → Nat} {first second : Nat → Int} {cm : Nat} {tv tr : Nat} {vals : Nat → Int} {ris : Nat → Nat} {cn : Nat} {q1 q2 q3 : Nat} {qi qo : Nat → Nat} {qs : Nat → Int} {qc : Nat} {tlo thi : Nat} {T : Nat → Nat} {x y : Int} (hx : b31 x) (hy : b31 y) (hcm : cm ≤ 100) (hqc : qc ≤ 10) (hcn : cn ≤ 100) (hqb : ∀ k, k < 10 → qi k < 12 ∧ qo k < 12 ∧ -99 ≤ qs k ∧ qs k ≤ 99) (hv : ∀ k, -1000 ≤ vals k ∧ vals k ≤ 999) : xI l g sx yX5_isBroken wsX5_isBroken ({ frames := 7, cells := 1, slots := 6, locals := 111 }) [.ref (ma), .int (iI (x)), .int (iI (y))] (wMA g ma m1 m2 m3 la tp qa sa ta ua kinds ni hds bc tgs ++ (wLog g la l1 l2 l3 l4 l5 l6 l7 l8 l9 deed first second item side picked qcnt An An cm ++ (wPal g tp tv tr vals ris cn ++ (wQuo g qa q1 q2 q3 qi qo qs qc ++ (wTab g ta tp tlo thi T T ++ ([])))))) (fun _ : Unit => wMA g ma m1 m2 m3 la tp qa sa ta ua kinds ni hds bc tgs ++ (wLog g la l1 l2 l3 l4 l5 l6 l7 l8 l9 deed first second item side picked qcnt An An cm ++ (wPal g tp tv tr vals ris cn ++ (wQuo g qa q1 q2 q3 qi qo qs qc ++ (wTab g ta tp tlo thi T T ++ ([])))))) (fun v _ => (if ¬ (0 ≤ x ∧ x < (qc : Int) ∧ 0 ≤ y ∧ y < (cm : Int)) then 1 else 0 : Nat) = 0 ∧ v = iI (bZ (decide (qst vals cn (qs x.toNat) (T (12 * y.toNat + qi x.toNat)) (T (12 * y.toNat + qo x.toNat)) = 1)))) (fun E => xE [eIO] (if ¬ (0 ≤ x ∧ x < (qc : Int) ∧ 0 ≤ y ∧ y < (cm : Int)) then 1 else 0 : Nat) E) 1 6 := by
  refine x_of (Qc := fun A => va_Qi (fun v _ => (if ¬ (0 ≤ x ∧ x < (qc : Int) ∧ 0 ≤ y ∧ y < (cm : Int)) then 1 else 0 : Nat) = 0 ∧ v = iI (bZ (decide (qst vals cn (qs x.toNat) (T (12 * y.toNat + qi x.toNat)) (T (12 * y.toNat + qo x.toNat)) = 1)))) (mB g (fun _ : Unit => wMA g ma m1 m2 m3 la tp qa sa ta ua kinds ni hds bc tgs ++ (wLog g la l1 l2 l3 l4 l5 l6 l7 l8 l9 deed first second item side picked qcnt An An cm ++ (wPal g tp tv tr vals ris cn ++ (wQuo g qa q1 q2 q3 qi qo qs qc ++ (wTab g ta tp tlo thi T T ++ ([])))))) A) A) (cc := cX5_isBroken) (maxL := 3) (ret := (some .boolean)) (own := RX5) hst (by decide) rfl rfl (Nat.le_of_ble_eq_true rfl) ?_
  intro p e s m args below meth c A C X hr hl
  have hx1 := hx.1
  have hx2 := hx.2
  have hy1 := hy.1
  have hy2 := hy.2
  refine v_iload_n C dX5_isBroken_0 rfl 1 rfl ?_
  refine v_if_lt C 15 dX5_isBroken_1 (by decide) ⟨by omega, by omega⟩ (fun c_1 => ?_) (fun c_1 => ?_)
  ·
    exact v_throw C X 13 xG_IO rfl xaX5_isBroken_199 xbX5_isBroken_199 xcX5_isBroken_199 hl dX5_isBroken_15 dX5_isBroken_18 dX5_isBroken_19 dX5_isBroken_21 dX5_isBroken_24 (by decide) (Nat.le_of_ble_eq_true rfl) (by decide) (by decide) (by decide) (by decide) rfl (xE1 (by (try simp only [Int.toNat_natCast]); rw [if_pos (by omega)]) rfl)
  ·
    refine v_iload_n C dX5_isBroken_4 rfl 1 rfl ?_
    refine v_aload_n C dX5_isBroken_5 rfl 0 rfl ?_
    refine v_get C 0 (kf := 7) rfl rfl (by decide) inX5_isBroken_5 lkX5_isBroken_41 rfl rfl dX5_isBroken_6 ?_
    refine v_get C 17 (kf := 3) rfl rfl (by decide) inX5_isBroken_2 lkX5_isBroken_179 rfl rfl dX5_isBroken_9 ?_
    refine v_icmp_lt C 25 dX5_isBroken_12 (by decide) ⟨by omega, by omega⟩ ⟨by omega, by omega⟩ (fun c_2 => ?_) (fun c_2 => ?_)
    ·
      obtain ⟨x0, rfl⟩ : ∃ i : Nat, x = (i : Int) := ⟨x.toNat, by omega⟩
      refine v_aload_n C dX5_isBroken_25 rfl 0 rfl ?_
      refine v_iload_n C dX5_isBroken_26 rfl 2 rfl ?_
      by_cases q_3 : 0 ≤ y ∧ y < ((cm : Nat) : Int)
      rotate_left
      ·
        refine v_xinvV C X (As := [.int (iI (y))]) (q0 := 0) (ci := 5) (kX5_requireCommit_bad l g sx hst (ma := ma) (m1 := m1) (m2 := m2) (m3 := m3) (la := la) (tp := tp) (qa := qa) (sa := sa) (ta := ta) (ua := ua) (kinds := kinds) (ni := ni) (hds := hds) (bc := bc) (tgs := tgs) (l1 := l1) (l2 := l2) (l3 := l3) (l4 := l4) (l5 := l5) (l6 := l6) (l7 := l7) (l8 := l8) (l9 := l9) (deed := deed) (item := item) (side := side) (picked := picked) (qcnt := qcnt) (An := An) (first := first) (second := second) (cm := cm) (x := y) ⟨by omega, by omega⟩ (by omega) (by omega)) (cwV 1 C.2.2.2.2.1 gX5_isBroken_X5_requireCommit rfl rfl rfl (by decide +kernel) ⟨Nat.le_of_ble_eq_true rfl, Nat.le_of_ble_eq_true rfl⟩) [wMA g ma m1 m2 m3 la tp qa sa ta ua kinds ni hds bc tgs, wLog g la l1 l2 l3 l4 l5 l6 l7 l8 l9 deed first second item side picked qcnt An An cm, wPal g tp tv tr vals ris cn, wQuo g qa q1 q2 q3 qi qo qs qc, wTab g ta tp tlo thi T T] [0, 1] [2, 3, 4] [] (fun _ => [wMA g ma m1 m2 m3 la tp qa sa ta ua kinds ni hds bc tgs, wLog g la l1 l2 l3 l4 l5 l6 l7 l8 l9 deed first second item side picked qcnt An An cm, wPal g tp tv tr vals ris cn, wQuo g qa q1 q2 q3 qi qo qs qc, wTab g ta tp tlo thi T T]) (fun _ => wMA g ma m1 m2 m3 la tp qa sa ta ua kinds ni hds bc tgs ++ (wLog g la l1 l2 l3 l4 l5 l6 l7 l8 l9 deed first second item side picked qcnt An An cm ++ (wPal g tp tv tr vals ris cn ++ (wQuo g qa q1 q2 q3 qi qo qs qc ++ (wTab g ta tp tlo thi T T ++ ([])))))) rfl rfl rfl (fun _ => rfl) (fun _ => rfl) (fun _ => rfl) (fun _ => rfl) rfl rfl rfl rfl rfl (Nat.le_of_ble_eq_true rfl) hl rfl (fun E h => h ▸ (xE1 (by (try simp only [Int.toNat_natCast]); rw [if_pos (by omega)]) rfl)) dX5_isBroken_27 ⟨by decide, by decide⟩ ⟨by decide, by decide⟩ (fun _ hff => hff.elim)
      obtain ⟨y0, rfl⟩ : ∃ i : Nat, y = (i : Int) := ⟨(y).toNat, by omega⟩
      have hy0 : y0 < cm := by omega
      refine v_invVV C (As := [.int (iI ((y0 : Nat) : Int))]) (q0 := 0) (ci := 5) (kX5_requireCommit_ok l g (ma := ma) (m1 := m1) (m2 := m2) (m3 := m3) (la := la) (tp := tp) (qa := qa) (sa := sa) (ta := ta) (ua := ua) (kinds := kinds) (ni := ni) (hds := hds) (bc := bc) (tgs := tgs) (l1 := l1) (l2 := l2) (l3 := l3) (l4 := l4) (l5 := l5) (l6 := l6) (l7 := l7) (l8 := l8) (l9 := l9) (deed := deed) (item := item) (side := side) (picked := picked) (qcnt := qcnt) (An := An) (first := first) (second := second) (cm := cm) (i0 := y0) (by omega) (by omega)) (cwV 1 C.2.2.2.2.1 gX5_isBroken_X5_requireCommit rfl rfl rfl (by decide +kernel) ⟨Nat.le_of_ble_eq_true rfl, Nat.le_of_ble_eq_true rfl⟩) [wMA g ma m1 m2 m3 la tp qa sa ta ua kinds ni hds bc tgs, wLog g la l1 l2 l3 l4 l5 l6 l7 l8 l9 deed first second item side picked qcnt An An cm, wPal g tp tv tr vals ris cn, wQuo g qa q1 q2 q3 qi qo qs qc, wTab g ta tp tlo thi T T] [0, 1] [2, 3, 4] [] (fun _ => [wMA g ma m1 m2 m3 la tp qa sa ta ua kinds ni hds bc tgs, wLog g la l1 l2 l3 l4 l5 l6 l7 l8 l9 deed first second item side picked qcnt An An cm, wPal g tp tv tr vals ris cn, wQuo g qa q1 q2 q3 qi qo qs qc, wTab g ta tp tlo thi T T]) (fun _ => wMA g ma m1 m2 m3 la tp qa sa ta ua kinds ni hds bc tgs ++ (wLog g la l1 l2 l3 l4 l5 l6 l7 l8 l9 deed first second item side picked qcnt An An cm ++ (wPal g tp tv tr vals ris cn ++ (wQuo g qa q1 q2 q3 qi qo qs qc ++ (wTab g ta tp tlo thi T T ++ ([])))))) rfl rfl rfl (fun _ => rfl) (fun _ => rfl) (fun _ => rfl) (fun _ => rfl) rfl rfl rfl rfl rfl (Nat.le_of_ble_eq_true rfl) dX5_isBroken_27 ⟨by decide, by decide⟩ (fun _ h_6 => ?_)
      refine v_aload_n C dX5_isBroken_30 rfl 0 rfl ?_
      refine v_get C 0 (kf := 7) rfl rfl (by decide) inX5_isBroken_5 lkX5_isBroken_41 rfl rfl dX5_isBroken_31 ?_
      refine v_iload_n C dX5_isBroken_34 rfl 1 rfl ?_
      refine v_aload_n C dX5_isBroken_35 rfl 0 rfl ?_
      refine v_get C 0 (kf := 9) rfl rfl (by decide) inX5_isBroken_5 lkX5_isBroken_59 rfl rfl dX5_isBroken_36 ?_
      refine v_iload_n C dX5_isBroken_39 rfl 2 rfl ?_
      refine v_invVI C (As := [.int (iI ((x0 : Nat) : Int)), .ref (ta), .int (iI ((y0 : Nat) : Int))]) (q0 := 0) (ci := 2) (kX2_stateIn l g (qa := qa) (q1 := q1) (q2 := q2) (q3 := q3) (qi := qi) (qo := qo) (qs := qs) (qc := qc) (ta := ta) (tp := tp) (tlo := tlo) (thi := thi) (T := T) (tv := tv) (tr := tr) (vals := vals) (ris := ris) (cn := cn) (q0 := x0) (r0 := y0) (by omega) (by omega) (by omega) hqb hv) (cwV 3 C.2.2.2.2.1 gX5_isBroken_X2_stateIn rfl rfl rfl (by decide +kernel) ⟨Nat.le_of_ble_eq_true rfl, Nat.le_of_ble_eq_true rfl⟩) [wMA g ma m1 m2 m3 la tp qa sa ta ua kinds ni hds bc tgs, wLog g la l1 l2 l3 l4 l5 l6 l7 l8 l9 deed first second item side picked qcnt An An cm, wPal g tp tv tr vals ris cn, wQuo g qa q1 q2 q3 qi qo qs qc, wTab g ta tp tlo thi T T] [3, 4, 2] [0, 1] [] (fun _ => [wMA g ma m1 m2 m3 la tp qa sa ta ua kinds ni hds bc tgs, wLog g la l1 l2 l3 l4 l5 l6 l7 l8 l9 deed first second item side picked qcnt An An cm, wPal g tp tv tr vals ris cn, wQuo g qa q1 q2 q3 qi qo qs qc, wTab g ta tp tlo thi T T]) (fun _ => wMA g ma m1 m2 m3 la tp qa sa ta ua kinds ni hds bc tgs ++ (wLog g la l1 l2 l3 l4 l5 l6 l7 l8 l9 deed first second item side picked qcnt An An cm ++ (wPal g tp tv tr vals ris cn ++ (wQuo g qa q1 q2 q3 qi qo qs qc ++ (wTab g ta tp tlo thi T T ++ ([])))))) rfl rfl rfl (fun _ => rfl) (fun _ => rfl) (fun _ => rfl) (fun _ => rfl) rfl rfl rfl rfl rfl (Nat.le_of_ble_eq_true rfl) dX5_isBroken_40 ⟨by decide, by decide⟩ (fun r_9 _ h_8 => ?_)
      subst h_8
      refine v_iconst C (z := 1) dX5_isBroken_43 ?_
      refine v_icmp_ne C 51 dX5_isBroken_44 (by decide) (qst31 _ _ _ _ _) (b31_lit _ rfl) (fun c_10 => ?_) (fun c_10 => ?_)
      ·
        refine v_iconst C (z := 0) dX5_isBroken_51 ?_
        exact v_xr (v_zret C hr hl () rfl (by decide) (by decide) rfl ⟨(by (try simp only [Int.toNat_natCast]); rw [if_neg (by omega)]), (bz_df (by simp only [Int.toNat_natCast]; omega))⟩ dX5_isBroken_52)
      ·
        refine v_iconst C (z := 1) dX5_isBroken_47 ?_
        refine v_goto C 52 dX5_isBroken_48 (by decide) ?_
        exact v_xr (v_zret C hr hl () rfl (by decide) (by decide) rfl ⟨(by (try simp only [Int.toNat_natCast]); rw [if_neg (by omega)]), (bz_dt (by simp only [Int.toNat_natCast]; omega))⟩ dX5_isBroken_52)
    ·
      exact v_throw C X 13 xG_IO rfl xaX5_isBroken_199 xbX5_isBroken_199 xcX5_isBroken_199 hl dX5_isBroken_15 dX5_isBroken_18 dX5_isBroken_19 dX5_isBroken_21 dX5_isBroken_24 (by decide) (Nat.le_of_ble_eq_true rfl) (by decide) (by decide) (by decide) (by decide) rfl (xE1 (by (try simp only [Int.toNat_natCast]); rw [if_pos (by omega)]) rfl)
theorem inX5_broken_5 : ∀ w ∈ u_ws RX5 TX5 11, w ∈ wsX5_broken := by decide +kernel
theorem lkX5_broken_41 : Cond.fieldLink RX5 41 "MergeAtelier" "quotes" "LMergeAtelier$Quotes;" ∈ wsX5_broken := by decide +kernel
theorem inX5_broken_2 : ∀ w ∈ u_ws RX2 TX2 4, w ∈ wsX5_broken := by decide +kernel
theorem lkX5_broken_179 : Cond.fieldLink RX5 179 "MergeAtelier$Quotes" "count" "I" ∈ wsX5_broken := by decide +kernel
theorem lkX5_broken_59 : Cond.fieldLink RX5 59 "MergeAtelier" "kept" "LMergeAtelier$Table;" ∈ wsX5_broken := by decide +kernel
set_option maxHeartbeats 4000000 in
set_option maxRecDepth 100000 in
theorem kX5_broken (l : Launch) (g : vG) (sx : Nat → Nat) (hst : l.stackTraces = false) {ma m1 m2 m3 la tp qa sa ta ua : Nat} {kinds tgs : Nat → Int} {hds : Nat → Nat} {ni bc : Nat} {l1 l2 l3 l4 l5 l6 l7 l8 l9 : Nat} {deed item side picked qcnt An : Nat → Nat} {first second : Nat → Int} {cm : Nat} {tv tr : Nat} {vals : Nat → Int} {ris : Nat → Nat} {cn : Nat} {q1 q2 q3 : Nat} {qi qo : Nat → Nat} {qs : Nat → Int} {qc : Nat} {tlo thi : Nat} {T : Nat → Nat} {x : Int} (hx : b31 x) (hcm : cm ≤ 100) (hqc : qc ≤ 10) (hcn : cn ≤ 100) (hqb : ∀ k, k < 10 → qi k < 12 ∧ qo k < 12 ∧ -99 ≤ qs k ∧ qs k ≤ 99) (hv : ∀ k, -1000 ≤ vals k ∧ vals k ≤ 999) : xI l g sx yX5_broken wsX5_broken ({ frames := 7, cells := 1, slots := 6, locals := 111 }) [.ref (ma), .int (iI (x))] (wMA g ma m1 m2 m3 la tp qa sa ta ua kinds ni hds bc tgs ++ (wLog g la l1 l2 l3 l4 l5 l6 l7 l8 l9 deed first second item side picked qcnt An An cm ++ (wPal g tp tv tr vals ris cn ++ (wQuo g qa q1 q2 q3 qi qo qs qc ++ (wTab g ta tp tlo thi T T ++ ([])))))) (fun _ : Unit => wMA g ma m1 m2 m3 la tp qa sa ta ua kinds ni hds bc tgs ++ (wLog g la l1 l2 l3 l4 l5 l6 l7 l8 l9 deed first second item side picked qcnt An An cm ++ (wPal g tp tv tr vals ris cn ++ (wQuo g qa q1 q2 q3 qi qo qs qc ++ (wTab g ta tp tlo thi T T ++ ([])))))) (fun v _ => (if ¬ (0 ≤ x ∧ x < (cm : Int)) then 1 else 0 : Nat) = 0 ∧ v = iI ((fb_ct (fun q => decide (((qst vals cn (qs q) (T (12 * x.toNat + qi q)) (T (12 * x.toNat + qo q)) : Nat) : Int) = 1)) qc : Nat) : Int)) (fun E => xE [eIO] (if ¬ (0 ≤ x ∧ x < (cm : Int)) then 1 else 0 : Nat) E) 1 6 := by
  refine x_of (Qc := fun A => va_Qi (fun v _ => (if ¬ (0 ≤ x ∧ x < (cm : Int)) then 1 else 0 : Nat) = 0 ∧ v = iI ((fb_ct (fun q => decide (((qst vals cn (qs q) (T (12 * x.toNat + qi q)) (T (12 * x.toNat + qo q)) : Nat) : Int) = 1)) qc : Nat) : Int)) (mB g (fun _ : Unit => wMA g ma m1 m2 m3 la tp qa sa ta ua kinds ni hds bc tgs ++ (wLog g la l1 l2 l3 l4 l5 l6 l7 l8 l9 deed first second item side picked qcnt An An cm ++ (wPal g tp tv tr vals ris cn ++ (wQuo g qa q1 q2 q3 qi qo qs qc ++ (wTab g ta tp tlo thi T T ++ ([])))))) A) A) (cc := cX5_broken) (maxL := 4) (ret := (some .int)) (own := RX5) hst (by decide) rfl rfl (Nat.le_of_ble_eq_true rfl) ?_
  intro p e s m args below meth c A C X hr hl
  have hx1 := hx.1
  have hx2 := hx.2
  refine v_aload_n C dX5_broken_0 rfl 0 rfl ?_
  refine v_iload_n C dX5_broken_1 rfl 1 rfl ?_
  by_cases q_1 : 0 ≤ x ∧ x < ((cm : Nat) : Int)
  rotate_left
  ·
    refine v_xinvV C X (As := [.int (iI (x))]) (q0 := 0) (ci := 5) (kX5_requireCommit_bad l g sx hst (ma := ma) (m1 := m1) (m2 := m2) (m3 := m3) (la := la) (tp := tp) (qa := qa) (sa := sa) (ta := ta) (ua := ua) (kinds := kinds) (ni := ni) (hds := hds) (bc := bc) (tgs := tgs) (l1 := l1) (l2 := l2) (l3 := l3) (l4 := l4) (l5 := l5) (l6 := l6) (l7 := l7) (l8 := l8) (l9 := l9) (deed := deed) (item := item) (side := side) (picked := picked) (qcnt := qcnt) (An := An) (first := first) (second := second) (cm := cm) (x := x) ⟨by omega, by omega⟩ (by omega) (by omega)) (cwV 1 C.2.2.2.2.1 gX5_broken_X5_requireCommit rfl rfl rfl (by decide +kernel) ⟨Nat.le_of_ble_eq_true rfl, Nat.le_of_ble_eq_true rfl⟩) [wMA g ma m1 m2 m3 la tp qa sa ta ua kinds ni hds bc tgs, wLog g la l1 l2 l3 l4 l5 l6 l7 l8 l9 deed first second item side picked qcnt An An cm, wPal g tp tv tr vals ris cn, wQuo g qa q1 q2 q3 qi qo qs qc, wTab g ta tp tlo thi T T] [0, 1] [2, 3, 4] [] (fun _ => [wMA g ma m1 m2 m3 la tp qa sa ta ua kinds ni hds bc tgs, wLog g la l1 l2 l3 l4 l5 l6 l7 l8 l9 deed first second item side picked qcnt An An cm, wPal g tp tv tr vals ris cn, wQuo g qa q1 q2 q3 qi qo qs qc, wTab g ta tp tlo thi T T]) (fun _ => wMA g ma m1 m2 m3 la tp qa sa ta ua kinds ni hds bc tgs ++ (wLog g la l1 l2 l3 l4 l5 l6 l7 l8 l9 deed first second item side picked qcnt An An cm ++ (wPal g tp tv tr vals ris cn ++ (wQuo g qa q1 q2 q3 qi qo qs qc ++ (wTab g ta tp tlo thi T T ++ ([])))))) rfl rfl rfl (fun _ => rfl) (fun _ => rfl) (fun _ => rfl) (fun _ => rfl) rfl rfl rfl rfl rfl (Nat.le_of_ble_eq_true rfl) hl rfl (fun E h => h ▸ (xE1 (by (try simp only [Int.toNat_natCast]); rw [if_pos (by omega)]) rfl)) dX5_broken_2 ⟨by decide, by decide⟩ ⟨by decide, by decide⟩ (fun _ hff => hff.elim)
  obtain ⟨x0, rfl⟩ : ∃ i : Nat, x = (i : Int) := ⟨(x).toNat, by omega⟩
  have hx0 : x0 < cm := by omega
  refine v_invVV C (As := [.int (iI ((x0 : Nat) : Int))]) (q0 := 0) (ci := 5) (kX5_requireCommit_ok l g (ma := ma) (m1 := m1) (m2 := m2) (m3 := m3) (la := la) (tp := tp) (qa := qa) (sa := sa) (ta := ta) (ua := ua) (kinds := kinds) (ni := ni) (hds := hds) (bc := bc) (tgs := tgs) (l1 := l1) (l2 := l2) (l3 := l3) (l4 := l4) (l5 := l5) (l6 := l6) (l7 := l7) (l8 := l8) (l9 := l9) (deed := deed) (item := item) (side := side) (picked := picked) (qcnt := qcnt) (An := An) (first := first) (second := second) (cm := cm) (i0 := x0) (by omega) (by omega)) (cwV 1 C.2.2.2.2.1 gX5_broken_X5_requireCommit rfl rfl rfl (by decide +kernel) ⟨Nat.le_of_ble_eq_true rfl, Nat.le_of_ble_eq_true rfl⟩) [wMA g ma m1 m2 m3 la tp qa sa ta ua kinds ni hds bc tgs, wLog g la l1 l2 l3 l4 l5 l6 l7 l8 l9 deed first second item side picked qcnt An An cm, wPal g tp tv tr vals ris cn, wQuo g qa q1 q2 q3 qi qo qs qc, wTab g ta tp tlo thi T T] [0, 1] [2, 3, 4] [] (fun _ => [wMA g ma m1 m2 m3 la tp qa sa ta ua kinds ni hds bc tgs, wLog g la l1 l2 l3 l4 l5 l6 l7 l8 l9 deed first second item side picked qcnt An An cm, wPal g tp tv tr vals ris cn, wQuo g qa q1 q2 q3 qi qo qs qc, wTab g ta tp tlo thi T T]) (fun _ => wMA g ma m1 m2 m3 la tp qa sa ta ua kinds ni hds bc tgs ++ (wLog g la l1 l2 l3 l4 l5 l6 l7 l8 l9 deed first second item side picked qcnt An An cm ++ (wPal g tp tv tr vals ris cn ++ (wQuo g qa q1 q2 q3 qi qo qs qc ++ (wTab g ta tp tlo thi T T ++ ([])))))) rfl rfl rfl (fun _ => rfl) (fun _ => rfl) (fun _ => rfl) (fun _ => rfl) rfl rfl rfl rfl rfl (Nat.le_of_ble_eq_true rfl) dX5_broken_2 ⟨by decide, by decide⟩ (fun _ h_4 => ?_)
  refine v_iconst C (z := 0) dX5_broken_5 ?_
  refine v_istore_n C [(2, .int (iI (0))), (0, .ref (ma)), (1, .int (iI ((x0 : Nat) : Int)))] dX5_broken_6 rfl (by decide) rfl ?_
  refine v_iconst C (z := 0) dX5_broken_7 ?_
  refine v_istore_n C [(3, .int (iI (0))), (2, .int (iI (0))), (0, .ref (ma)), (1, .int (iI ((x0 : Nat) : Int)))] dX5_broken_8 rfl (by decide) rfl ?_
  refine v_lv (lv' := [(0, .ref (ma)), (1, .int (iI ((x0 : Nat) : Int))), (2, .int (iI ((fb_ct (fun q => decide (((qst vals cn (qs q) (T (12 * x0 + qi q)) (T (12 * x0 + qo q)) : Nat) : Int) = 1)) 0 : Nat) : Int))), (3, .int (iI ((0 : Nat) : Int)))]) [2, 3, 1, 0] rfl ?_
  refine v_lp1 (X := Nat) (fun q => wMA g ma m1 m2 m3 la tp qa sa ta ua kinds ni hds bc tgs ++ (wLog g la l1 l2 l3 l4 l5 l6 l7 l8 l9 deed first second item side picked qcnt An An cm ++ (wPal g tp tv tr vals ris cn ++ (wQuo g qa q1 q2 q3 qi qo qs qc ++ (wTab g ta tp tlo thi T T ++ ([])))))) (fun q => [(0, .ref (ma)), (1, .int (iI ((x0 : Nat) : Int))), (2, .int (iI ((fb_ct (fun q => decide (((qst vals cn (qs q) (T (12 * x0 + qi q)) (T (12 * x0 + qo q)) : Nat) : Int) = 1)) q : Nat) : Int))), (3, .int (iI ((q : Nat) : Int)))]) (fun q => qc - q) (fun q => q ≤ qc) ?_ (0) (Nat.zero_le _)
  intro q hJ9 ih9
  try dsimp only at hJ9 ⊢
  refine v_iload_n C dX5_broken_9 rfl 3 rfl ?_
  refine v_aload_n C dX5_broken_10 rfl 0 rfl ?_
  refine v_get C 0 (kf := 7) rfl rfl (by decide) inX5_broken_5 lkX5_broken_41 rfl rfl dX5_broken_11 ?_
  refine v_get C 17 (kf := 3) rfl rfl (by decide) inX5_broken_2 lkX5_broken_179 rfl rfl dX5_broken_14 ?_
  refine v_icmp_ge C 46 dX5_broken_17 (by decide) ⟨by omega, by omega⟩ ⟨by omega, by omega⟩ (fun c_6 => ?_) (fun c_6 => ?_)
  ·
    obtain rfl : qc = q := by omega
    refine v_iload_n C dX5_broken_46 rfl 2 rfl ?_
    exact v_xr (v_iret C hr hl () (by decide) (by decide) rfl ⟨(by (try simp only [Int.toNat_natCast]); rw [if_neg (by omega)]), rfl⟩ dX5_broken_47)
  ·
    refine v_aload_n C dX5_broken_20 rfl 0 rfl ?_
    refine v_get C 0 (kf := 7) rfl rfl (by decide) inX5_broken_5 lkX5_broken_41 rfl rfl dX5_broken_21 ?_
    refine v_iload_n C dX5_broken_24 rfl 3 rfl ?_
    refine v_aload_n C dX5_broken_25 rfl 0 rfl ?_
    refine v_get C 0 (kf := 9) rfl rfl (by decide) inX5_broken_5 lkX5_broken_59 rfl rfl dX5_broken_26 ?_
    refine v_iload_n C dX5_broken_29 rfl 1 rfl ?_
    refine v_invVI C (As := [.int (iI ((q : Nat) : Int)), .ref (ta), .int (iI ((x0 : Nat) : Int))]) (q0 := 0) (ci := 2) (kX2_stateIn l g (qa := qa) (q1 := q1) (q2 := q2) (q3 := q3) (qi := qi) (qo := qo) (qs := qs) (qc := qc) (ta := ta) (tp := tp) (tlo := tlo) (thi := thi) (T := T) (tv := tv) (tr := tr) (vals := vals) (ris := ris) (cn := cn) (q0 := q) (r0 := x0) (by omega) (by omega) (by omega) hqb hv) (cwV 3 C.2.2.2.2.1 gX5_broken_X2_stateIn rfl rfl rfl (by decide +kernel) ⟨Nat.le_of_ble_eq_true rfl, Nat.le_of_ble_eq_true rfl⟩) [wMA g ma m1 m2 m3 la tp qa sa ta ua kinds ni hds bc tgs, wLog g la l1 l2 l3 l4 l5 l6 l7 l8 l9 deed first second item side picked qcnt An An cm, wPal g tp tv tr vals ris cn, wQuo g qa q1 q2 q3 qi qo qs qc, wTab g ta tp tlo thi T T] [3, 4, 2] [0, 1] [] (fun _ => [wMA g ma m1 m2 m3 la tp qa sa ta ua kinds ni hds bc tgs, wLog g la l1 l2 l3 l4 l5 l6 l7 l8 l9 deed first second item side picked qcnt An An cm, wPal g tp tv tr vals ris cn, wQuo g qa q1 q2 q3 qi qo qs qc, wTab g ta tp tlo thi T T]) (fun _ => wMA g ma m1 m2 m3 la tp qa sa ta ua kinds ni hds bc tgs ++ (wLog g la l1 l2 l3 l4 l5 l6 l7 l8 l9 deed first second item side picked qcnt An An cm ++ (wPal g tp tv tr vals ris cn ++ (wQuo g qa q1 q2 q3 qi qo qs qc ++ (wTab g ta tp tlo thi T T ++ ([])))))) rfl rfl rfl (fun _ => rfl) (fun _ => rfl) (fun _ => rfl) (fun _ => rfl) rfl rfl rfl rfl rfl (Nat.le_of_ble_eq_true rfl) dX5_broken_30 ⟨by decide, by decide⟩ (fun r_8 _ h_7 => ?_)
    subst h_7
    refine v_iconst C (z := 1) dX5_broken_33 ?_
    refine v_icmp_ne C 40 dX5_broken_34 (by decide) (qst31 _ _ _ _ _) (b31_lit _ rfl) (fun c_9 => ?_) (fun c_9 => ?_)
    ·
      refine v_iinc C [(3, .int (iI (((q : Nat) : Int) + 1))), (0, .ref (ma)), (1, .int (iI ((x0 : Nat) : Int))), (2, .int (iI ((fb_ct (fun q => decide (((qst vals cn (qs q) (T (12 * x0 + qi q)) (T (12 * x0 + qo q)) : Nat) : Int) = 1)) q : Nat) : Int)))] dX5_broken_40 3 rfl (by decide) rfl ?_
      rw [show ((q : Nat) : Int) + 1 = ((q + 1 : Nat) : Int) from rfl]
      refine v_goto C 9 dX5_broken_43 (by decide) ?_
      refine v_lv (lv' := [(0, .ref (ma)), (1, .int (iI ((x0 : Nat) : Int))), (2, .int (iI ((fb_ct (fun q => decide (((qst vals cn (qs q) (T (12 * x0 + qi q)) (T (12 * x0 + qo q)) : Nat) : Int) = 1)) q : Nat) : Int))), (3, .int (iI ((q + 1 : Nat) : Int)))]) [1, 2, 3, 0] rfl ?_
      rw [show ((fb_ct (fun q => decide (((qst vals cn (qs q) (T (12 * x0 + qi q)) (T (12 * x0 + qo q)) : Nat) : Int) = 1)) q : Nat) : Int) = ((fb_ct (fun q => decide (((qst vals cn (qs q) (T (12 * x0 + qi q)) (T (12 * x0 + qo q)) : Nat) : Int) = 1)) (q + 1) : Nat) : Int) from (ct_fz (decide_eq_false c_9))]
      exact ih9 (q + 1) (by omega) (by omega)
    ·
      refine v_iinc C [(2, .int (iI (((fb_ct (fun q => decide (((qst vals cn (qs q) (T (12 * x0 + qi q)) (T (12 * x0 + qo q)) : Nat) : Int) = 1)) q : Nat) : Int) + 1))), (0, .ref (ma)), (1, .int (iI ((x0 : Nat) : Int))), (3, .int (iI ((q : Nat) : Int)))] dX5_broken_37 2 rfl (by decide) rfl ?_
      rw [show ((fb_ct (fun q => decide (((qst vals cn (qs q) (T (12 * x0 + qi q)) (T (12 * x0 + qo q)) : Nat) : Int) = 1)) q : Nat) : Int) + 1 = ((fb_ct (fun q => decide (((qst vals cn (qs q) (T (12 * x0 + qi q)) (T (12 * x0 + qo q)) : Nat) : Int) = 1)) q + 1 : Nat) : Int) from rfl]
      refine v_iinc C [(3, .int (iI (((q : Nat) : Int) + 1))), (2, .int (iI ((fb_ct (fun q => decide (((qst vals cn (qs q) (T (12 * x0 + qi q)) (T (12 * x0 + qo q)) : Nat) : Int) = 1)) q + 1 : Nat) : Int))), (0, .ref (ma)), (1, .int (iI ((x0 : Nat) : Int)))] dX5_broken_40 3 rfl (by decide) rfl ?_
      rw [show ((q : Nat) : Int) + 1 = ((q + 1 : Nat) : Int) from rfl]
      refine v_goto C 9 dX5_broken_43 (by decide) ?_
      refine v_lv (lv' := [(0, .ref (ma)), (1, .int (iI ((x0 : Nat) : Int))), (2, .int (iI ((fb_ct (fun q => decide (((qst vals cn (qs q) (T (12 * x0 + qi q)) (T (12 * x0 + qo q)) : Nat) : Int) = 1)) q + 1 : Nat) : Int))), (3, .int (iI ((q + 1 : Nat) : Int)))]) [2, 3, 1, 0] rfl ?_
      rw [show ((fb_ct (fun q => decide (((qst vals cn (qs q) (T (12 * x0 + qi q)) (T (12 * x0 + qo q)) : Nat) : Int) = 1)) q + 1 : Nat) : Int) = ((fb_ct (fun q => decide (((qst vals cn (qs q) (T (12 * x0 + qi q)) (T (12 * x0 + qo q)) : Nat) : Int) = 1)) (q + 1) : Nat) : Int) from (ct_tz (decide_eq_true c_9))]
      exact ih9 (q + 1) (by omega) (by omega)
theorem xaX5_quote_70 : Cond.classLink RX5 70 eIA ∈ wsX5_quote := by decide +kernel
theorem xbX5_quote_70 : Cond.initialized eIA ∈ wsX5_quote := by decide +kernel
theorem xcX5_quote_70 : ∀ w ∈ (vx_atS RX5 74 eIA exN).filter goodWord, w ∈ wsX5_quote := by decide +kernel
theorem inX5_quote_5 : ∀ w ∈ u_ws RX5 TX5 11, w ∈ wsX5_quote := by decide +kernel
theorem lkX5_quote_41 : Cond.fieldLink RX5 41 "MergeAtelier" "quotes" "LMergeAtelier$Quotes;" ∈ wsX5_quote := by decide +kernel
theorem inX5_quote_2 : ∀ w ∈ u_ws RX2 TX2 4, w ∈ wsX5_quote := by decide +kernel
theorem lkX5_quote_179 : Cond.fieldLink RX5 179 "MergeAtelier$Quotes" "count" "I" ∈ wsX5_quote := by decide +kernel
theorem xaX5_quote_80 : Cond.classLink RX5 80 eIS ∈ wsX5_quote := by decide +kernel
theorem xbX5_quote_80 : Cond.initialized eIS ∈ wsX5_quote := by decide +kernel
theorem xcX5_quote_80 : ∀ w ∈ (vx_atS RX5 84 eIS exN).filter goodWord, w ∈ wsX5_quote := by decide +kernel
set_option maxHeartbeats 4000000 in
set_option maxRecDepth 100000 in
theorem kX5_quote (l : Launch) (g : vG) (sx : Nat → Nat) (hst : l.stackTraces = false) {ma m1 m2 m3 la tp qa sa ta ua : Nat} {kinds tgs : Nat → Int} {hds : Nat → Nat} {ni bc : Nat} {q1 q2 q3 : Nat} {qi qo : Nat → Nat} {qs : Nat → Int} {qc : Nat} {x y z : Int} (hx : b31 x) (hy : b31 y) (hz : b31 z) (hni : ni ≤ 12) (hqc : qc ≤ 10) : xI l g sx yX5_quote wsX5_quote ({ frames := 7, cells := 1, slots := 6, locals := 111 }) [.ref (ma), .int (iI (x)), .int (iI (y)), .int (iI (z))] (wMA g ma m1 m2 m3 la tp qa sa ta ua kinds ni hds bc tgs ++ (wQuo g qa q1 q2 q3 qi qo qs qc ++ ([]))) (fun _ : Unit => wMA g ma m1 m2 m3 la tp qa sa ta ua kinds ni hds bc tgs ++ (wQuo g qa q1 q2 q3 (updN qi (qc) (x.toNat)) (updN qo (qc) (y.toNat)) (updZ qs (qc) (z)) (qc + 1) ++ ([]))) (fun v _ => (if ¬ (0 ≤ x ∧ x < (ni : Int) ∧ 0 ≤ y ∧ y < (ni : Int)) then 1 else if x = y ∨ z < -99 ∨ 99 < z then 2 else if qc = 10 then 3 else 0 : Nat) = 0 ∧ v = iI ((qc : Nat) : Int)) (fun E => xE [eIO, eIA, eIS] (if ¬ (0 ≤ x ∧ x < (ni : Int) ∧ 0 ≤ y ∧ y < (ni : Int)) then 1 else if x = y ∨ z < -99 ∨ 99 < z then 2 else if qc = 10 then 3 else 0 : Nat) E) 1 6 := by
  refine x_of (Qc := fun A => va_Qi (fun v _ => (if ¬ (0 ≤ x ∧ x < (ni : Int) ∧ 0 ≤ y ∧ y < (ni : Int)) then 1 else if x = y ∨ z < -99 ∨ 99 < z then 2 else if qc = 10 then 3 else 0 : Nat) = 0 ∧ v = iI ((qc : Nat) : Int)) (mB g (fun _ : Unit => wMA g ma m1 m2 m3 la tp qa sa ta ua kinds ni hds bc tgs ++ (wQuo g qa q1 q2 q3 (updN qi (qc) (x.toNat)) (updN qo (qc) (y.toNat)) (updZ qs (qc) (z)) (qc + 1) ++ ([]))) A) A) (cc := cX5_quote) (maxL := 4) (ret := (some .int)) (own := RX5) hst (by decide) rfl rfl (Nat.le_of_ble_eq_true rfl) ?_
  intro p e s m args below meth c A C X hr hl
  have hx1 := hx.1
  have hx2 := hx.2
  have hy1 := hy.1
  have hy2 := hy.2
  have hz1 := hz.1
  have hz2 := hz.2
  refine v_aload_n C dX5_quote_0 rfl 0 rfl ?_
  refine v_iload_n C dX5_quote_1 rfl 1 rfl ?_
  by_cases q_1 : 0 ≤ x ∧ x < ((ni : Nat) : Int)
  rotate_left
  ·
    refine v_xinvV C X (As := [.int (iI (x))]) (q0 := 0) (ci := 5) (kX5_requireItem_bad l g sx hst (ma := ma) (m1 := m1) (m2 := m2) (m3 := m3) (la := la) (tp := tp) (qa := qa) (sa := sa) (ta := ta) (ua := ua) (kinds := kinds) (ni := ni) (hds := hds) (bc := bc) (tgs := tgs)  (x := x) ⟨by omega, by omega⟩ (by omega) (by omega)) (cwV 1 C.2.2.2.2.1 gX5_quote_X5_requireItem rfl rfl rfl (by decide +kernel) ⟨Nat.le_of_ble_eq_true rfl, Nat.le_of_ble_eq_true rfl⟩) [wMA g ma m1 m2 m3 la tp qa sa ta ua kinds ni hds bc tgs, wQuo g qa q1 q2 q3 qi qo qs qc] [0] [1] [] (fun _ => [wMA g ma m1 m2 m3 la tp qa sa ta ua kinds ni hds bc tgs, wQuo g qa q1 q2 q3 qi qo qs qc]) (fun _ => wMA g ma m1 m2 m3 la tp qa sa ta ua kinds ni hds bc tgs ++ (wQuo g qa q1 q2 q3 qi qo qs qc ++ ([]))) rfl rfl rfl (fun _ => rfl) (fun _ => rfl) (fun _ => rfl) (fun _ => rfl) rfl rfl rfl rfl rfl (Nat.le_of_ble_eq_true rfl) hl rfl (fun E h => h ▸ (xE1 (by (try simp only [Int.toNat_natCast]); rw [if_pos (by omega)]) rfl)) dX5_quote_2 ⟨by decide, by decide⟩ ⟨by decide, by decide⟩ (fun _ hff => hff.elim)
  obtain ⟨x0, rfl⟩ : ∃ i : Nat, x = (i : Int) := ⟨(x).toNat, by omega⟩
  have hx0 : x0 < ni := by omega
  refine v_invVV C (As := [.int (iI ((x0 : Nat) : Int))]) (q0 := 0) (ci := 5) (kX5_requireItem_ok l g (ma := ma) (m1 := m1) (m2 := m2) (m3 := m3) (la := la) (tp := tp) (qa := qa) (sa := sa) (ta := ta) (ua := ua) (kinds := kinds) (ni := ni) (hds := hds) (bc := bc) (tgs := tgs)  (i0 := x0) (by omega) (by omega)) (cwV 1 C.2.2.2.2.1 gX5_quote_X5_requireItem rfl rfl rfl (by decide +kernel) ⟨Nat.le_of_ble_eq_true rfl, Nat.le_of_ble_eq_true rfl⟩) [wMA g ma m1 m2 m3 la tp qa sa ta ua kinds ni hds bc tgs, wQuo g qa q1 q2 q3 qi qo qs qc] [0] [1] [] (fun _ => [wMA g ma m1 m2 m3 la tp qa sa ta ua kinds ni hds bc tgs, wQuo g qa q1 q2 q3 qi qo qs qc]) (fun _ => wMA g ma m1 m2 m3 la tp qa sa ta ua kinds ni hds bc tgs ++ (wQuo g qa q1 q2 q3 qi qo qs qc ++ ([]))) rfl rfl rfl (fun _ => rfl) (fun _ => rfl) (fun _ => rfl) (fun _ => rfl) rfl rfl rfl rfl rfl (Nat.le_of_ble_eq_true rfl) dX5_quote_2 ⟨by decide, by decide⟩ (fun _ h_4 => ?_)
  refine v_aload_n C dX5_quote_5 rfl 0 rfl ?_
  refine v_iload_n C dX5_quote_6 rfl 2 rfl ?_
  by_cases q_6 : 0 ≤ y ∧ y < ((ni : Nat) : Int)
  rotate_left
  ·
    refine v_xinvV C X (As := [.int (iI (y))]) (q0 := 0) (ci := 5) (kX5_requireItem_bad l g sx hst (ma := ma) (m1 := m1) (m2 := m2) (m3 := m3) (la := la) (tp := tp) (qa := qa) (sa := sa) (ta := ta) (ua := ua) (kinds := kinds) (ni := ni) (hds := hds) (bc := bc) (tgs := tgs)  (x := y) ⟨by omega, by omega⟩ (by omega) (by omega)) (cwV 1 C.2.2.2.2.1 gX5_quote_X5_requireItem rfl rfl rfl (by decide +kernel) ⟨Nat.le_of_ble_eq_true rfl, Nat.le_of_ble_eq_true rfl⟩) [wMA g ma m1 m2 m3 la tp qa sa ta ua kinds ni hds bc tgs, wQuo g qa q1 q2 q3 qi qo qs qc] [0] [1] [] (fun _ => [wMA g ma m1 m2 m3 la tp qa sa ta ua kinds ni hds bc tgs, wQuo g qa q1 q2 q3 qi qo qs qc]) (fun _ => wMA g ma m1 m2 m3 la tp qa sa ta ua kinds ni hds bc tgs ++ (wQuo g qa q1 q2 q3 qi qo qs qc ++ ([]))) rfl rfl rfl (fun _ => rfl) (fun _ => rfl) (fun _ => rfl) (fun _ => rfl) rfl rfl rfl rfl rfl (Nat.le_of_ble_eq_true rfl) hl rfl (fun E h => h ▸ (xE1 (by (try simp only [Int.toNat_natCast]); rw [if_pos (by omega)]) rfl)) dX5_quote_7 ⟨by decide, by decide⟩ ⟨by decide, by decide⟩ (fun _ hff => hff.elim)
  obtain ⟨y0, rfl⟩ : ∃ i : Nat, y = (i : Int) := ⟨(y).toNat, by omega⟩
  have hy0 : y0 < ni := by omega
  refine v_invVV C (As := [.int (iI ((y0 : Nat) : Int))]) (q0 := 0) (ci := 5) (kX5_requireItem_ok l g (ma := ma) (m1 := m1) (m2 := m2) (m3 := m3) (la := la) (tp := tp) (qa := qa) (sa := sa) (ta := ta) (ua := ua) (kinds := kinds) (ni := ni) (hds := hds) (bc := bc) (tgs := tgs)  (i0 := y0) (by omega) (by omega)) (cwV 1 C.2.2.2.2.1 gX5_quote_X5_requireItem rfl rfl rfl (by decide +kernel) ⟨Nat.le_of_ble_eq_true rfl, Nat.le_of_ble_eq_true rfl⟩) [wMA g ma m1 m2 m3 la tp qa sa ta ua kinds ni hds bc tgs, wQuo g qa q1 q2 q3 qi qo qs qc] [0] [1] [] (fun _ => [wMA g ma m1 m2 m3 la tp qa sa ta ua kinds ni hds bc tgs, wQuo g qa q1 q2 q3 qi qo qs qc]) (fun _ => wMA g ma m1 m2 m3 la tp qa sa ta ua kinds ni hds bc tgs ++ (wQuo g qa q1 q2 q3 qi qo qs qc ++ ([]))) rfl rfl rfl (fun _ => rfl) (fun _ => rfl) (fun _ => rfl) (fun _ => rfl) rfl rfl rfl rfl rfl (Nat.le_of_ble_eq_true rfl) dX5_quote_7 ⟨by decide, by decide⟩ (fun _ h_9 => ?_)
  refine v_iload_n C dX5_quote_10 rfl 1 rfl ?_
  refine v_iload_n C dX5_quote_11 rfl 2 rfl ?_
  refine v_icmp_eq C 27 dX5_quote_12 (by decide) ⟨by omega, by omega⟩ ⟨by omega, by omega⟩ (fun c_11 => ?_) (fun c_11 => ?_)
  ·
    exact v_throw C X 11 xG_IA rfl xaX5_quote_70 xbX5_quote_70 xcX5_quote_70 hl dX5_quote_27 dX5_quote_30 dX5_quote_31 dX5_quote_33 dX5_quote_36 (by decide) (Nat.le_of_ble_eq_true rfl) (by decide) (by decide) (by decide) (by decide) rfl (xE2 (by (try simp only [Int.toNat_natCast]); rw [if_neg (by omega), if_pos (by omega)]) rfl)
  ·
    refine v_iload_n C dX5_quote_15 rfl 3 rfl ?_
    refine v_bipush C (z := -99) dX5_quote_16 rfl ?_
    refine v_icmp_lt C 27 dX5_quote_18 (by decide) ⟨by omega, by omega⟩ (b31_lit _ rfl) (fun c_12 => ?_) (fun c_12 => ?_)
    ·
      exact v_throw C X 11 xG_IA rfl xaX5_quote_70 xbX5_quote_70 xcX5_quote_70 hl dX5_quote_27 dX5_quote_30 dX5_quote_31 dX5_quote_33 dX5_quote_36 (by decide) (Nat.le_of_ble_eq_true rfl) (by decide) (by decide) (by decide) (by decide) rfl (xE2 (by (try simp only [Int.toNat_natCast]); rw [if_neg (by omega), if_pos (by omega)]) rfl)
    ·
      refine v_iload_n C dX5_quote_21 rfl 3 rfl ?_
      refine v_bipush C (z := 99) dX5_quote_22 rfl ?_
      refine v_icmp_le C 37 dX5_quote_24 (by decide) ⟨by omega, by omega⟩ (b31_lit _ rfl) (fun c_13 => ?_) (fun c_13 => ?_)
      ·
        refine v_aload_n C dX5_quote_37 rfl 0 rfl ?_
        refine v_get C 0 (kf := 7) rfl rfl (by decide) inX5_quote_5 lkX5_quote_41 rfl rfl dX5_quote_38 ?_
        refine v_get C 4 (kf := 3) rfl rfl (by decide) inX5_quote_2 lkX5_quote_179 rfl rfl dX5_quote_41 ?_
        refine v_bipush C (z := 10) dX5_quote_44 rfl ?_
        refine v_icmp_lt C 59 dX5_quote_46 (by decide) ⟨by omega, by omega⟩ (b31_lit _ rfl) (fun c_14 => ?_) (fun c_14 => ?_)
        ·
          refine v_aload_n C dX5_quote_59 rfl 0 rfl ?_
          refine v_get C 0 (kf := 7) rfl rfl (by decide) inX5_quote_5 lkX5_quote_41 rfl rfl dX5_quote_60 ?_
          refine v_iload_n C dX5_quote_63 rfl 1 rfl ?_
          refine v_iload_n C dX5_quote_64 rfl 2 rfl ?_
          refine v_iload_n C dX5_quote_65 rfl 3 rfl ?_
          refine v_invVI C (As := [.int (iI ((x0 : Nat) : Int)), .int (iI ((y0 : Nat) : Int)), .int (iI (z))]) (q0 := 0) (ci := 2) (kX2_add l g (qa := qa) (q1 := q1) (q2 := q2) (q3 := q3) (qi := qi) (qo := qo) (qs := qs) (qc := qc) (i0 := x0) (i1 := y0) (x := z) (by omega)) (cwV 3 C.2.2.2.2.1 gX5_quote_X2_add rfl rfl rfl (by decide +kernel) ⟨Nat.le_of_ble_eq_true rfl, Nat.le_of_ble_eq_true rfl⟩) [wMA g ma m1 m2 m3 la tp qa sa ta ua kinds ni hds bc tgs, wQuo g qa q1 q2 q3 qi qo qs qc] [1] [0] [] (fun _ => [wMA g ma m1 m2 m3 la tp qa sa ta ua kinds ni hds bc tgs, wQuo g qa q1 q2 q3 (updN qi qc x0) (updN qo qc y0) (updZ qs qc (z)) (qc + 1)]) (fun _ => wMA g ma m1 m2 m3 la tp qa sa ta ua kinds ni hds bc tgs ++ (wQuo g qa q1 q2 q3 (updN qi qc x0) (updN qo qc y0) (updZ qs qc (z)) (qc + 1) ++ ([]))) rfl rfl rfl (fun _ => rfl) (fun _ => rfl) (fun _ => rfl) (fun _ => rfl) rfl rfl rfl rfl rfl (Nat.le_of_ble_eq_true rfl) dX5_quote_66 ⟨by decide, by decide⟩ (fun r_16 _ h_15 => ?_)
          subst h_15
          exact v_xr (v_iret C hr hl () (by decide) (by decide) rfl ⟨(by (try simp only [Int.toNat_natCast]); rw [if_neg (by omega), if_neg (by omega), if_neg (by omega)]), rfl⟩ dX5_quote_69)
        ·
          exact v_throw C X 12 xG_IS rfl xaX5_quote_80 xbX5_quote_80 xcX5_quote_80 hl dX5_quote_49 dX5_quote_52 dX5_quote_53 dX5_quote_55 dX5_quote_58 (by decide) (Nat.le_of_ble_eq_true rfl) (by decide) (by decide) (by decide) (by decide) rfl (xE3 (by (try simp only [Int.toNat_natCast]); rw [if_neg (by omega), if_neg (by omega), if_pos (by omega)]) rfl)
      ·
        exact v_throw C X 11 xG_IA rfl xaX5_quote_70 xbX5_quote_70 xcX5_quote_70 hl dX5_quote_27 dX5_quote_30 dX5_quote_31 dX5_quote_33 dX5_quote_36 (by decide) (Nat.le_of_ble_eq_true rfl) (by decide) (by decide) (by decide) (by decide) rfl (xE2 (by (try simp only [Int.toNat_natCast]); rw [if_neg (by omega), if_pos (by omega)]) rfl)
