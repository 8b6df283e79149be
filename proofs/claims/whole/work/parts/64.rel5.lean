/-! a value told, and the calls that make a commit -/
theorem pIns_hi {vals : Nat → Int} {ris : Nat → Nat} {x : Int} : ∀ {n p : Nat}, pIns vals ris x n ≤ p → p < n → x < vals (ris p)
  | 0, p, _, h => absurd h (Nat.not_lt_zero p)
  | n + 1, p, h1, h2 => by
    by_cases c : x < vals (ris n)
    · rw [pIns_t c] at h1
      by_cases e : p = n
      · subst e; exact c
      · exact pIns_hi h1 (by omega)
    · rw [pIns_f c] at h1
      omega
theorem pIns_lo {vals : Nat → Int} {ris : Nat → Nat} {x : Int} : ∀ {n : Nat}, 0 < pIns vals ris x n → ¬ x < vals (ris (pIns vals ris x n - 1))
  | 0, h => absurd h (Nat.lt_irrefl 0)
  | n + 1, h => by
    by_cases c : x < vals (ris n)
    · rw [pIns_t c] at h ⊢
      exact pIns_lo h
    · rw [pIns_f c]
      exact c
theorem nOf_none {vals : Nat → Int} {x : Int} : ∀ {n : Nat}, nOf vals x n = n → ∀ k, k < n → ¬ vals k = x
  | 0, _, k, hk => absurd hk (Nat.not_lt_zero k)
  | n + 1, h, k, hk => by
    have h9 := nOf_le vals x n
    have h0 : nOf vals x n = n := by
      by_cases e : nOf vals x n < n
      · have : nOf vals x (n + 1) = nOf vals x n := if_pos e
        omega
      · omega
    have h1 : ¬ vals n = x := fun e => by
      have := nOf_hit h0 e (n + 1) (Nat.lt_succ_self n)
      omega
    by_cases e : k = n
    · subst e; exact h1
    · exact nOf_none h0 k (by omega)
section PT
variable {vals : Nat → Int} {ris : Nat → Nat} {cn : Nat} {x : Int}
theorem ins_lo {p : Nat} (h : p < pIns vals ris x cn) : insR vals ris x cn p = ris p := by
  unfold insR
  rw [updN_n (by omega), shP_lo (by omega)]
theorem ins_at : insR vals ris x cn (pIns vals ris x cn) = cn := updN_s _ _ _
theorem ins_hi {p : Nat} (h : pIns vals ris x cn < p) (h2 : p ≤ cn) : insR vals ris x cn p = ris (p - 1) := by
  unfold insR
  rw [updN_n (by omega)]
  exact if_pos ⟨h, h2⟩
theorem ins_out {p : Nat} (h : cn < p) : insR vals ris x cn p = ris p := by
  have := pIns_le vals ris x cn
  unfold insR
  rw [updN_n (by omega)]
  exact if_neg (by omega)
theorem ins_ct (P : Nat → Bool) : ∀ d, pIns vals ris x cn + d ≤ cn → fb_ct (fun p => P (insR vals ris x cn p)) (pIns vals ris x cn + d + 1) = fb_ct (fun p => P (ris p)) (pIns vals ris x cn + d) + (if P cn then 1 else 0)
  | 0, _ => by
    show fb_ct _ (pIns vals ris x cn + 1) = _
    rw [fb_ct_succ, ins_at]
    rw [fb_ct_cong (p := fun p => P (insR vals ris x cn p)) (q := fun p => P (ris p)) (fun k hk => by show P _ = P _; rw [ins_lo hk])]
    rfl
  | d + 1, h => by
    have ih := ins_ct P d (by omega)
    rw [show pIns vals ris x cn + (d + 1) + 1 = (pIns vals ris x cn + d + 1) + 1 by omega, fb_ct_succ, ih, ins_hi (p := pIns vals ris x cn + d + 1) (by omega) (by omega), show pIns vals ris x cn + (d + 1) = pIns vals ris x cn + d + 1 by omega, fb_ct_succ (fun p => P (ris p)), show pIns vals ris x cn + d + 1 - 1 = pIns vals ris x cn + d by omega]
    omega
theorem pal_new (h : PalOK vals ris cn) (hc : cn < 100) (hx1 : -999 ≤ x) (hx2 : x ≤ 999) (hn : ∀ k, k < cn → ¬ vals k = x) : PalOK (updZ vals cn x) (insR vals ris x cn) (cn + 1) := by
  obtain ⟨⟨h1, h1b⟩, h2, h3, h4, h5, h6, h7, h8⟩ := h
  have hq := pIns_le vals ris x cn
  refine ⟨⟨by omega, by omega⟩, fun P => ?_, ?_, fun k hk => ?_, ?_, fun k k1 k2 => ?_, fun k => ?_, fun k => ?_⟩
  · have e := ins_ct (vals := vals) (ris := ris) (cn := cn) (x := x) P (cn - pIns vals ris x cn) (by omega)
    rw [show pIns vals ris x cn + (cn - pIns vals ris x cn) = cn by omega] at e
    rw [e, h2 P, fb_ct_succ]
  · have key : ∀ p, p < cn + 1 → updZ vals cn x (insR vals ris x cn p) = if p < pIns vals ris x cn then vals (ris p) else if p = pIns vals ris x cn then x else vals (ris (p - 1)) := fun p hp => by
      by_cases a : p < pIns vals ris x cn
      · rw [if_pos a, ins_lo a, updZ_n (by have := h4 p (by omega); omega)]
      · rw [if_neg a]
        by_cases b : p = pIns vals ris x cn
        · rw [if_pos b, b, ins_at, updZ_s]
        · rw [if_neg b, ins_hi (by omega) (by omega), updZ_n (by have := h4 (p - 1) (by omega); omega)]
    intro p q hpq hq2
    rw [key p (by omega), key q hq2]
    by_cases a : q < pIns vals ris x cn
    · rw [if_pos (by omega), if_pos a]
      exact h3 p q hpq (by omega)
    · rw [if_neg a]
      by_cases b : q = pIns vals ris x cn
      · rw [if_pos b, if_pos (by omega)]
        have l := pIns_lo (vals := vals) (ris := ris) (x := x) (n := cn) (by omega)
        have n1 := hn (ris (pIns vals ris x cn - 1)) (h4 _ (by omega))
        by_cases e : p = pIns vals ris x cn - 1
        · rw [e]; omega
        · have := h3 p (pIns vals ris x cn - 1) (by omega) (by omega)
          omega
      · rw [if_neg b]
        by_cases c : p < pIns vals ris x cn
        · rw [if_pos c]
          exact h3 p (q - 1) (by omega) (by omega)
        · rw [if_neg c]
          by_cases d : p = pIns vals ris x cn
          · rw [if_pos d]
            exact pIns_hi (n := cn) (by omega) (by omega)
          · rw [if_neg d]
            exact h3 (p - 1) (q - 1) (by omega) (by omega)
  · by_cases a : k < pIns vals ris x cn
    · rw [ins_lo a]; have := h4 k (by omega); omega
    · by_cases b : k = pIns vals ris x cn
      · rw [b, ins_at]; omega
      · rw [ins_hi (by omega) (by omega)]; have := h4 (k - 1) (by omega); omega
  · rw [updZ_n (by omega)]; exact h5
  · by_cases e : k = cn
    · rw [e, updZ_s]; exact hx1
    · rw [updZ_n e]; exact h6 k k1 (by omega)
  · by_cases e : k = cn
    · rw [e, updZ_s]; omega
    · rw [updZ_n e]; exact h7 k
  · by_cases a : k < pIns vals ris x cn
    · rw [ins_lo a]; exact h8 k
    · by_cases b : k = pIns vals ris x cn
      · rw [b, ins_at]; exact hc
      · by_cases c : k ≤ cn
        · rw [ins_hi (by omega) c]; exact h8 _
        · rw [ins_out (by omega)]; exact h8 k
theorem pal_tell (h : PalOK vals ris cn) (hc : cn < 100) (hx1 : -999 ≤ x) (hx2 : x ≤ 999) : PalOK (tVals vals cn x) (tRis vals ris cn x) (tCn vals cn x) := by
  have hn := nOf_le vals x cn
  unfold tVals tRis tCn
  by_cases e : nOf vals x cn < cn
  · rw [if_pos e, if_pos e, if_pos e]; exact h
  · rw [if_neg e, if_neg e, if_neg e]
    exact pal_new h hc hx1 hx2 (nOf_none (by omega))
theorem tell_old (k : Nat) (hk : k < cn) : tVals vals cn x k = vals k := by
  unfold tVals
  split
  · rfl
  · exact updZ_n (by omega)
theorem tell_cn : cn ≤ tCn vals cn x := by
  unfold tCn
  split
  · exact Nat.le_refl _
  · exact Nat.le_succ _
theorem tell_no : nOf vals x cn < tCn vals cn x := by
  have := nOf_le vals x cn
  unfold tCn
  by_cases e : nOf vals x cn < cn
  · rw [if_pos e]; exact e
  · rw [if_neg e]; omega
end PT
section RM
variable {kinds tgs first second vals qs : Nat → Int} {hds deed item side picked qcnt An ris qi qo T Tr Tm Nw : Nat → Nat} {ni bc cm cn qc : Nat}
theorem row101 {F : Nat → Nat} {r n : Nat} (h : T101 Tm) (hF : ∀ i, i < n → F i < 2 ^ 101) : T101 (rowP Tm r n F) := fun k => by
  unfold rowP
  by_cases e : 12 * r ≤ k ∧ k < 12 * r + n
  · rw [if_pos e]; exact hF _ (by omega)
  · rw [if_neg e]; exact h k
theorem rel_change {x0 i0 sd cn2 : Nat} {vals2 : Nat → Int} {ris2 : Nat → Nat} (h : Rel kinds tgs first second vals qs hds deed item side picked qcnt An ris qi qo T Tr Tm ni bc cm cn qc) (hcm9 : cm < 100) (hi0 : i0 < ni) (hsd : sd < cn2) (hp2 : PalOK vals2 ris2 cn2) (hc2 : cn2 ≤ cm + 1) (hv : ∀ k, k < cn → vals2 k = vals k) (hc : cn ≤ cn2) :
    Rel kinds tgs (updZ first cm ((hds x0 : Nat) : Int)) (updZ second cm (-1)) vals2 qs (updN hds x0 cm) (updN deed cm 1) (updN item cm i0) (updN side cm sd) picked qcnt (an1 An cm (hds x0)) ris2 qi qo (wrT vals2 cn2 qi qo qs (updN deed cm 1) (updN item cm i0) (updN side cm sd) picked qcnt (an1 An cm (hds x0)) (updZ first cm ((hds x0 : Nat) : Int)) (updZ second cm (-1)) T cm) Tr (updN (rowP Tm cm ni (fun i => Tm (12 * hds x0 + i))) (12 * cm + i0) (2 ^ sd)) ni bc (cm + 1) cn2 qc := by
  obtain ⟨hni, hbc1, hbc, hcm1, hcm, hcn1, hnm, hqc, hhd, htg, hf, hs, hfc, hsc, hAn, hTm, hao, hpal, hqb, hqi, htk, hkd⟩ := h.1
  have hfx := hhd x0
  have hr : ∀ i, rowL vals2 cn2 qi qo qs (updN deed cm 1) (updN item cm i0) (updN side cm sd) picked qcnt (an1 An cm (hds x0)) (updZ first cm ((hds x0 : Nat) : Int)) (updZ second cm (-1)) T cm i = if i = i0 then 2 ^ sd else T (12 * hds x0 + i) := fun i => by
    unfold rowL
    rw [updN_s, if_pos rfl, updN_s, updN_s, updZ_s]
    rfl
  have hsd9 : sd < 100 := by have := hp2.1.2; omega
  refine rel_more (f := hds x0) (s := -1) (a := An (hds x0) ||| 2 ^ cm) h hcm9 hfx (Or.inl rfl) (an1_eq (by omega)) (a_ch hao hfx) hp2 hc2 hv hc (fun k => ?_) (fun k hk => ⟨updN_n (by omega), updN_n (by omega), updN_n (by omega), rfl, rfl⟩) (lok_c hfx (by omega) (by omega)) (fun hd => by rw [updN_s] at hd; omega) (fun i hi => ?_) (fun i h7 h8 => ?_) (fun i hi => ?_) (fun r hr9 i hi => ?_) (fun i h7 h8 => ?_)
  · unfold updN
    by_cases e : k = 12 * cm + i0
    · rw [if_pos e]; exact pow101 (by omega)
    · rw [if_neg e]; exact row101 hTm (fun i _ => hTm _) k
  · rw [hr i]
    by_cases e : i = i0
    · rw [if_pos e]; exact ⟨Nat.two_pow_pos sd, Nat.pow_lt_pow_right (by decide) hsd⟩
    · rw [if_neg e]
      have := h.2.1.1 _ hfx i hi
      exact ⟨this.1, Nat.lt_of_lt_of_le this.2 (Nat.pow_le_pow_right (by decide) hc)⟩
  · rw [hr i, if_neg (by omega)]
    exact h.2.1.2.1 _ hfx i h7 h8
  · rw [hr i]
    by_cases e : i = i0
    · rw [if_pos e, e, updN_s]
    · rw [if_neg e, updN_n (by omega), rowP_in hi]
      exact h.2.2.2.1 _ hfx i hi
  · rw [updN_n (by omega), rowP_else hni hi hr9]
  · rw [updN_n (by omega), rowP_out (by omega)]
theorem rel_merge {x0 y0 : Nat} (h : Rel kinds tgs first second vals qs hds deed item side picked qcnt An ris qi qo T Tr Tm ni bc cm cn qc) (hcm9 : cm < 100) :
    Rel kinds tgs (updZ first cm ((hds x0 : Nat) : Int)) (updZ second cm ((hds y0 : Nat) : Int)) vals qs (updN hds x0 cm) (updN deed cm 2) item side picked (updN qcnt cm qc) (an2 An cm (hds x0) (hds y0)) ris qi qo (wrT vals cn qi qo qs (updN deed cm 2) item side picked (updN qcnt cm qc) (an2 An cm (hds x0) (hds y0)) (updZ first cm ((hds x0 : Nat) : Int)) (updZ second cm ((hds y0 : Nat) : Int)) T cm) Tr (rowP (rowP Tm cm ni (fun i => Tm (12 * hds x0 + i))) cm ni (mgN vals cn qi qo qs An Tm (hds x0) (hds y0) ni qc Nw)) ni bc (cm + 1) cn qc := by
  obtain ⟨hni, hbc1, hbc, hcm1, hcm, hcn1, hnm, hqc, hhd, htg, hf, hs, hfc, hsc, hAn, hTm, hao, hpal, hqb, hqi, htk, hkd⟩ := h.1
  have hfx := hhd x0
  have hfy := hhd y0
  have hA1 : an2 An cm (hds x0) (hds y0) (hds x0) = An (hds x0) := by rw [an2_eq (by omega) (by omega), updN_n (by omega)]
  have hA2 : an2 An cm (hds x0) (hds y0) (hds y0) = An (hds y0) := by rw [an2_eq (by omega) (by omega), updN_n (by omega)]
  have hr : ∀ i, rowL vals cn qi qo qs (updN deed cm 2) item side picked (updN qcnt cm qc) (an2 An cm (hds x0) (hds y0)) (updZ first cm ((hds x0 : Nat) : Int)) (updZ second cm ((hds y0 : Nat) : Int)) T cm i = mqp vals cn qi qo qs (hds x0) (hds y0) T (mgF T (hds x0) (hds y0) (gsh (An (hds x0) &&& An (hds y0)) (min (hds x0) (hds y0)))) qc i := fun i => by
    unfold rowL
    rw [updN_s, if_neg (by decide), if_pos rfl, updN_s, updZ_s, updZ_s]
    show mqp vals cn qi qo qs (hds x0) (hds y0) T (mgF T (hds x0) (hds y0) (gsh (an2 An cm (hds x0) (hds y0) (hds x0) &&& an2 An cm (hds x0) (hds y0) (hds y0)) (min (hds x0) (hds y0)))) qc i = _
    rw [hA1, hA2]
  have hok := mgN_ok (N := Nw) (An := An) (vals := vals) (qs := qs) htk hfx hfy hqi
  have hb : gsh (An (hds x0) &&& An (hds y0)) (min (hds x0) (hds y0)) < cm := base_lt hfx
  refine rel_more (f := hds x0) (s := ((hds y0 : Nat) : Int)) (a := (An (hds x0) ||| An (hds y0)) ||| 2 ^ cm) h hcm9 hfx (Or.inr ⟨hds y0, rfl, hfy⟩) (an2_eq (by omega) (by omega)) (a_mg hao hfx hfy) hpal (by omega) (fun _ _ => rfl) (Nat.le_refl _) (row101 (row101 hTm (fun i _ => hTm _)) (fun i hi => pow_le101 (hok i hi).2 (by omega))) (fun k hk => ⟨updN_n (by omega), rfl, rfl, rfl, updN_n (by omega)⟩) (lok_m hfx hfy hqc) (fun hd => by rw [updN_s]; exact Nat.le_refl _) (fun i hi => ?_) (fun i h7 h8 => ?_) (fun i hi => ?_) (fun r hr9 i hi => ?_) (fun i h7 h8 => ?_)
  · rw [hr i]
    exact mqp_ok (qc := qc) h.2.1.1 hfx hfy (fun i hi => mg_ok (h.2.1.1 _ hfx i hi) (h.2.1.1 _ hfy i hi)) (fun k hk => h.q12 k (by omega)) qc (Nat.le_refl _) i hi
  · rw [hr i, mqp_out h7 qc hqi]
    show mg _ _ _ = 1
    rw [h.2.1.2.1 _ hfx i h7 h8, h.2.1.2.1 _ hfy i h7 h8]
    exact mg_a (Or.inl rfl)
  · rw [hr i, rowP_in hi]
    unfold mgN
    refine (mqp_cong (m := ni) (fun i hi => (h.2.2.2.1 _ hfx i hi).symm) (fun i hi => (h.2.2.2.1 _ hfy i hi).symm) (fun i hi => ?_) qc hqi i hi).symm
    rw [npF_lt hi]
    show mg _ _ _ = mg _ _ _
    rw [h.2.2.2.1 _ hfx i hi, h.2.2.2.1 _ hfy i hi, h.2.2.2.1 _ hb i hi]
  · rw [rowP_else hni hi hr9, rowP_else hni hi hr9]
  · rw [rowP_out (by omega), rowP_out (by omega)]
theorem pkc_ok {q b h : Nat} (hq : 0 < q ∧ q < 2 ^ cn) (hh : 0 < h ∧ h < 2 ^ cn) : 0 < pkc q b h ∧ pkc q b h < 2 ^ cn := by
  unfold pkc
  by_cases e : q = b
  · rw [if_pos e]; exact hh
  · rw [if_neg e]
    by_cases e2 : h = b
    · rw [if_pos e2]; exact hq
    · rw [if_neg e2]; exact or_ok hh hq.2
theorem rel_pick {x0 y0 : Nat} (h : Rel kinds tgs first second vals qs hds deed item side picked qcnt An ris qi qo T Tr Tm ni bc cm cn qc) (hcm9 : cm < 100) (hy : y0 < cm) (hp : pcn (first y0) (second y0) = 1) :
    Rel kinds tgs (updZ first cm ((hds x0 : Nat) : Int)) (updZ second cm (-1)) vals qs (updN hds x0 cm) (updN deed cm 3) item side (updN picked cm y0) qcnt (an1 An cm (hds x0)) ris qi qo (wrT vals cn qi qo qs (updN deed cm 3) item side (updN picked cm y0) qcnt (an1 An cm (hds x0)) (updZ first cm ((hds x0 : Nat) : Int)) (updZ second cm (-1)) T cm) Tr (rowP (rowP Tm cm ni (fun i => Tm (12 * hds x0 + i))) cm ni (npF Nw ni (pickF Tm (hds x0) y0 (first y0).toNat))) ni bc (cm + 1) cn qc := by
  obtain ⟨hni, hbc1, hbc, hcm1, hcm, hcn1, hnm, hqc, hhd, htg, hf, hs, hfc, hsc, hAn, hTm, hao, hpal, hqb, hqi, htk, hkd⟩ := h.1
  have hfx := hhd x0
  have hp1 := pcn_1 (show ((pcn (first y0) (second y0) : Nat) : Int) = 1 by omega)
  have hp2 := hf y0
  have hp3 := hfc y0 hy
  obtain ⟨b0, eb⟩ : ∃ b : Nat, first y0 = (b : Int) := ⟨(first y0).toNat, by omega⟩
  have hb0 : b0 < cm := by omega
  have et : (first y0).toNat = b0 := by rw [eb]; rfl
  have hr : ∀ i, rowL vals cn qi qo qs (updN deed cm 3) item side (updN picked cm y0) qcnt (an1 An cm (hds x0)) (updZ first cm ((hds x0 : Nat) : Int)) (updZ second cm (-1)) T cm i = pkc (T (12 * y0 + i)) (T (12 * b0 + i)) (T (12 * hds x0 + i)) := fun i => by
    unfold rowL
    rw [updN_s, if_neg (by decide), if_neg (by decide), if_pos rfl, updN_s, updZ_s, updZ_n (show y0 ≠ cm by omega), et]
    rfl
  have hm : ∀ i, i < ni → npF Nw ni (pickF Tm (hds x0) y0 (first y0).toNat) i = pkc (T (12 * y0 + i)) (T (12 * b0 + i)) (T (12 * hds x0 + i)) := fun i hi => by
    rw [npF_lt hi, et]
    show pkc _ _ _ = _
    rw [h.2.2.2.1 _ hy i hi, h.2.2.2.1 _ hb0 i hi, h.2.2.2.1 _ hfx i hi]
  have hok : ∀ i, i < 12 → 0 < pkc (T (12 * y0 + i)) (T (12 * b0 + i)) (T (12 * hds x0 + i)) ∧ pkc (T (12 * y0 + i)) (T (12 * b0 + i)) (T (12 * hds x0 + i)) < 2 ^ cn := fun i hi => pkc_ok (h.2.1.1 _ hy i hi) (h.2.1.1 _ hfx i hi)
  refine rel_more (f := hds x0) (s := -1) (a := An (hds x0) ||| 2 ^ cm) h hcm9 hfx (Or.inl rfl) (an1_eq (by omega)) (a_ch hao hfx) hpal (by omega) (fun _ _ => rfl) (Nat.le_refl _) (row101 (row101 hTm (fun i _ => hTm _)) (fun i hi => by rw [hm i hi]; exact pow_le101 (hok i (by omega)).2 (by omega))) (fun k hk => ⟨updN_n (by omega), rfl, rfl, updN_n (by omega), rfl⟩) (lok_p hfx hy eb hb0) (fun hd => by rw [updN_s] at hd; omega) (fun i hi => ?_) (fun i h7 h8 => ?_) (fun i hi => ?_) (fun r hr9 i hi => ?_) (fun i h7 h8 => ?_)
  · rw [hr i]; exact hok i hi
  · rw [hr i, h.2.1.2.1 _ hy i h7 h8, h.2.1.2.1 _ hb0 i h7 h8, h.2.1.2.1 _ hfx i h7 h8]
    exact pkc_a rfl
  · rw [hr i, rowP_in hi]; exact hm i hi
  · rw [rowP_else hni hi hr9, rowP_else hni hi hr9]
  · rw [rowP_out (by omega), rowP_out (by omega)]
end RM
