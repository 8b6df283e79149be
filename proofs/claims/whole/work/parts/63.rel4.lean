/-! each call that changes something keeps it -/
def an1 (An : Nat → Nat) (c f : Nat) : Nat → Nat := updN (updN An c (2 ^ c)) c ((updN An c (2 ^ c)) c ||| (updN An c (2 ^ c)) f)
def an2 (An : Nat → Nat) (c f s : Nat) : Nat → Nat := updN (an1 An c f) c ((an1 An c f) c ||| (an1 An c f) s)
theorem an1_eq {An : Nat → Nat} {c f : Nat} (h : f ≠ c) : an1 An c f = updN An c (An f ||| 2 ^ c) := by
  unfold an1
  rw [updN_2, updN_s, updN_n h, Nat.or_comm]
theorem an2_eq {An : Nat → Nat} {c f s : Nat} (h : f ≠ c) (h2 : s ≠ c) : an2 An c f s = updN An c ((An f ||| An s) ||| 2 ^ c) := by
  unfold an2
  rw [an1_eq h, updN_2, updN_s, updN_n h2, Nat.or_assoc, Nat.or_comm (2 ^ c) (An s), ← Nat.or_assoc]
section RK
variable {kinds tgs first second vals qs : Nat → Int} {hds deed item side picked qcnt An ris qi qo T Tr Tm : Nat → Nat} {ni bc cm cn qc : Nat}
theorem rel_T {T2 : Nat → Nat} (h : Rel kinds tgs first second vals qs hds deed item side picked qcnt An ris qi qo T Tr Tm ni bc cm cn qc) (hT : ∀ r, r < cm → ∀ i, i < 12 → T2 (12 * r + i) = T (12 * r + i)) (h128 : T128 T2) : Rel kinds tgs first second vals qs hds deed item side picked qcnt An ris qi qo T2 Tr Tm ni bc cm cn qc :=
  ⟨h.1, h.2.1.T h.q12 hT h128, h.2.2.1, fun r hr i hi => by rw [hT r hr i (Nat.lt_of_lt_of_le hi h.1.1)]; exact h.2.2.2.1 r hr i hi, h.2.2.2.2⟩
theorem rel_Tr {Tr2 : Nat → Nat} (h : Rel kinds tgs first second vals qs hds deed item side picked qcnt An ris qi qo T Tr Tm ni bc cm cn qc) (h128 : T128 Tr2) : Rel kinds tgs first second vals qs hds deed item side picked qcnt An ris qi qo T Tr2 Tm ni bc cm cn qc := ⟨h.1, h.2.1, h128, h.2.2.2⟩
theorem colP_n {T : Nat → Nat} {n c k : Nat} (h : k % 12 ≠ n) : colP T n c k = T k := if_neg (fun x => h x.1)
theorem colP_y {T : Nat → Nat} {n c k : Nat} (h : k % 12 = n) (h2 : k < 12 * c) : colP T n c k = 1 := if_pos ⟨h, h2⟩
theorem rel_addItem {x : Int} (h : Rel kinds tgs first second vals qs hds deed item side picked qcnt An ris qi qo T Tr Tm ni bc cm cn qc) (hn : ni < 12) (hx : 0 ≤ x ∧ x < 65536) : Rel (updZ kinds ni x) tgs first second vals qs hds deed item side picked qcnt An ris qi qo T Tr (colP Tm ni 100) (ni + 1) bc cm cn qc := by
  obtain ⟨⟨hni, hbc1, hbc, hcm1, hcm, hcn1, hnm, hqc, hhd, htg, hf, hs, hfc, hsc, hAn, hTm, hao, hpal, hqb, hqi, htk, hkd⟩, ⟨c1, c2, c3, c4, c5, c6⟩, h3, h4, h5⟩ := h
  have hin : ∀ c, c < cm → ∀ i, i < ni + 1 → colP Tm ni 100 (12 * c + i) = T (12 * c + i) := fun c hc i hi => by
    by_cases e : i = ni
    · subst e
      rw [colP_y (by omega) (by omega), c2 c hc i (Nat.le_refl _) hn]
    · rw [colP_n (by omega)]
      exact h4 c hc i (by omega)
  refine ⟨⟨by omega, hbc1, hbc, hcm1, hcm, hcn1, hnm, hqc, hhd, htg, hf, hs, hfc, hsc, hAn, fun k => ?_, hao, hpal, hqb, fun k hk => ⟨by have := (hqi k hk).1; omega, by have := (hqi k hk).2; omega⟩, fun c hc i hi => ?_, fun k => ?_⟩, ⟨c1, fun r hr i h7 h8 => c2 r hr i (by omega) h8, c3, c4, c5, c6⟩, h3, hin, fun c hc i h7 h8 => ?_⟩
  · unfold colP
    by_cases e : k % 12 = ni ∧ k < 12 * 100
    · rw [if_pos e]; decide
    · rw [if_neg e]; exact hTm k
  · rw [hin c hc i hi]
    exact c1 c hc i (by omega)
  · unfold updZ
    by_cases e : k = ni
    · rw [if_pos e]; exact hx
    · rw [if_neg e]; exact hkd k
  · rw [colP_n (by omega)]
    exact h5 c hc i (by omega) h8
theorem rel_addBranch {x0 : Nat} (h : Rel kinds tgs first second vals qs hds deed item side picked qcnt An ris qi qo T Tr Tm ni bc cm cn qc) (hx : x0 < cm) (hn : bc < 5) : Rel kinds tgs first second vals qs (updN hds bc x0) deed item side picked qcnt An ris qi qo T Tr Tm ni (bc + 1) cm cn qc := by
  obtain ⟨⟨hni, hbc1, hbc, hcm1, hcm, hcn1, hnm, hqc, hhd, hrest⟩, h2⟩ := h
  refine ⟨⟨hni, by omega, by omega, hcm1, hcm, hcn1, hnm, hqc, fun k => ?_, hrest⟩, h2⟩
  unfold updN
  by_cases e : k = bc
  · rw [if_pos e]; exact hx
  · rw [if_neg e]; exact hhd k
theorem rel_tag {x0 y0 : Nat} (h : Rel kinds tgs first second vals qs hds deed item side picked qcnt An ris qi qo T Tr Tm ni bc cm cn qc) (hy : y0 < cm) : Rel kinds (updZ tgs x0 ((y0 : Nat) : Int)) first second vals qs hds deed item side picked qcnt An ris qi qo T Tr Tm ni bc cm cn qc := by
  obtain ⟨⟨hni, hbc1, hbc, hcm1, hcm, hcn1, hnm, hqc, hhd, htg, hrest⟩, h2⟩ := h
  refine ⟨⟨hni, hbc1, hbc, hcm1, hcm, hcn1, hnm, hqc, hhd, fun k => ?_, hrest⟩, h2⟩
  unfold updZ
  by_cases e : k = x0
  · rw [if_pos e]; omega
  · rw [if_neg e]; exact htg k
theorem rel_quote {x0 y0 : Nat} {z : Int} (h : Rel kinds tgs first second vals qs hds deed item side picked qcnt An ris qi qo T Tr Tm ni bc cm cn qc) (hx : x0 < ni) (hy : y0 < ni) (hz1 : -99 ≤ z) (hz2 : z ≤ 99) (hn : qc < 10) : Rel kinds tgs first second vals (updZ qs qc z) hds deed item side picked qcnt An ris (updN qi qc x0) (updN qo qc y0) T Tr Tm ni bc cm cn (qc + 1) := by
  obtain ⟨⟨hni, hbc1, hbc, hcm1, hcm, hcn1, hnm, hqc, hhd, htg, hf, hs, hfc, hsc, hAn, hTm, hao, hpal, hqb, hqi, htk, hkd⟩, ⟨c1, c2, c3, c4, c5, c6⟩, h3, h4, h5⟩ := h
  refine ⟨⟨hni, hbc1, hbc, hcm1, hcm, hcn1, hnm, by omega, hhd, htg, hf, hs, hfc, hsc, hAn, hTm, hao, hpal, fun k hk => ?_, fun k hk => ?_, htk, hkd⟩, ⟨c1, c2, c3, fun j hj hd => Nat.le_succ_of_le (c4 j hj hd), fun j hj i hi => ?_, c6⟩, h3, h4, h5⟩
  · by_cases e : k = qc
    · rw [e, updN_s, updN_s, updZ_s]
      exact ⟨by omega, by omega, hz1, hz2⟩
    · rw [updN_n e, updN_n e, updZ_n e]
      exact hqb k hk
  · by_cases e : k = qc
    · rw [e, updN_s, updN_s]
      exact ⟨hx, hy⟩
    · rw [updN_n e, updN_n e]
      exact hqi k (by omega)
  · rw [c5 j hj i hi]
    exact (rowL_q (fun k hk => ⟨updN_n (by omega), updN_n (by omega), updZ_n (by omega)⟩) (c4 j hj) i).symm
/-- the log's other facts, with one more commit -/
theorem MI.more {f : Nat} {s : Int} {a x0 cn2 : Nat} {vals2 : Nat → Int} {ris2 Tm2 : Nat → Nat} (h : MI vals ris cn kinds tgs first second qs hds An qi qo Tm ni bc cm qc) (hcm9 : cm < 100) (hf9 : f < cm) (hs9 : s = -1 ∨ ∃ s0 : Nat, s = (s0 : Int) ∧ s0 < cm) (ha0 : a.testBit 0 = true) (hac : a.testBit cm = true) (hak : ∀ k, a.testBit k = true → k ≤ cm) (hp2 : PalOK vals2 ris2 cn2) (hc2 : cn2 ≤ cm + 1) (hT1 : T101 Tm2) (hT2 : TOK cn2 (cm + 1) ni Tm2) : MI vals2 ris2 cn2 kinds tgs (updZ first cm ((f : Nat) : Int)) (updZ second cm s) qs (updN hds x0 cm) (updN An cm a) qi qo Tm2 ni bc (cm + 1) qc := by
  obtain ⟨hni, hbc1, hbc, hcm1, hcm, hcn1, hnm, hqc, hhd, htg, hf, hs, hfc, hsc, hAn, hTm, hao, hpal, hqb, hqi, htk, hkd⟩ := h
  refine ⟨hni, hbc1, hbc, by omega, by omega, hp2.1.1, hc2, hqc, fun k => ?_, htg, fun k => ?_, fun k => ?_, fun k hk => ?_, fun k hk => ?_, fun k => ?_, hT1, fun j hj => ?_, hp2, hqb, hqi, hT2, hkd⟩
  · unfold updN
    by_cases e : k = x0
    · rw [if_pos e]; omega
    · rw [if_neg e]; have := hhd k; omega
  · unfold updZ
    by_cases e : k = cm
    · rw [if_pos e]; omega
    · rw [if_neg e]; exact hf k
  · unfold updZ
    by_cases e : k = cm
    · rw [if_pos e]
      rcases hs9 with e1 | ⟨s0, e1, e2⟩ <;> rw [e1] <;> omega
    · rw [if_neg e]; exact hs k
  · by_cases e : k = cm
    · rw [e, updZ_s]; omega
    · rw [updZ_n e]; exact hfc k (by omega)
  · by_cases e : k = cm
    · rw [e, updZ_s, updZ_s]
      rcases hs9 with e1 | ⟨s0, e1, e2⟩ <;> rw [e1] <;> omega
    · rw [updZ_n e, updZ_n e]; exact hsc k (by omega)
  · by_cases e : k = cm
    · rw [e, updN_s]
      exact Nat.lt_pow_two_of_testBit a (fun i hi => by
        cases q : a.testBit i with
        | false => rfl
        | true => have := hak i q; omega)
    · rw [updN_n e]; exact hAn k
  · by_cases e : j = cm
    · rw [e, updN_s]; exact ⟨ha0, hac, hak⟩
    · rw [updN_n e]; exact hao j (by omega)
theorem a_ch {f : Nat} (hao : AO An cm) (hf : f < cm) : (An f ||| 2 ^ cm).testBit 0 = true ∧ (An f ||| 2 ^ cm).testBit cm = true ∧ ∀ k, (An f ||| 2 ^ cm).testBit k = true → k ≤ cm := by
  refine ⟨by rw [Nat.testBit_or, (hao f hf).1]; rfl, by rw [Nat.testBit_or, Nat.testBit_two_pow_self, Bool.or_true], fun k hk => ?_⟩
  rw [Nat.testBit_or, Nat.testBit_two_pow] at hk
  rcases (Bool.or_eq_true _ _).mp hk with q | q
  · have := (hao f hf).2.2 k q; omega
  · have := of_decide_eq_true q; omega
theorem a_mg {f s : Nat} (hao : AO An cm) (hf : f < cm) (hs : s < cm) : ((An f ||| An s) ||| 2 ^ cm).testBit 0 = true ∧ ((An f ||| An s) ||| 2 ^ cm).testBit cm = true ∧ ∀ k, ((An f ||| An s) ||| 2 ^ cm).testBit k = true → k ≤ cm := by
  refine ⟨by rw [Nat.testBit_or, Nat.testBit_or, (hao f hf).1]; rfl, by rw [Nat.testBit_or, Nat.testBit_two_pow_self, Bool.or_true], fun k hk => ?_⟩
  rw [Nat.testBit_or, Nat.testBit_or, Nat.testBit_two_pow] at hk
  rcases (Bool.or_eq_true _ _).mp hk with q | q
  · rcases (Bool.or_eq_true _ _).mp q with q | q
    · have := (hao f hf).2.2 k q; omega
    · have := (hao s hs).2.2 k q; omega
  · have := of_decide_eq_true q; omega
/-- one more commit, on both sides -/
theorem rel_more {f : Nat} {s : Int} {a x0 cn2 : Nat} {vals2 : Nat → Int} {ris2 deed2 item2 side2 picked2 qcnt2 An2 Tm2 : Nat → Nat} (h : Rel kinds tgs first second vals qs hds deed item side picked qcnt An ris qi qo T Tr Tm ni bc cm cn qc) (hcm9 : cm < 100) (hf9 : f < cm) (hs9 : s = -1 ∨ ∃ s0 : Nat, s = (s0 : Int) ∧ s0 < cm) (hA2 : An2 = updN An cm a) (ha : a.testBit 0 = true ∧ a.testBit cm = true ∧ ∀ k, a.testBit k = true → k ≤ cm)
    (hp2 : PalOK vals2 ris2 cn2) (hc2 : cn2 ≤ cm + 1) (hv : ∀ k, k < cn → vals2 k = vals k) (hc : cn ≤ cn2) (hT1 : T101 Tm2)
    (hL : ∀ k, k < cm → deed2 k = deed k ∧ item2 k = item k ∧ side2 k = side k ∧ picked2 k = picked k ∧ qcnt2 k = qcnt k) (hl : lok deed2 item2 side2 picked2 qcnt2 (updZ first cm ((f : Nat) : Int)) (updZ second cm s) cm) (hqc9 : deed2 cm = 2 → qcnt2 cm ≤ qc)
    (hok : ∀ i, i < 12 → 0 < rowL vals2 cn2 qi qo qs deed2 item2 side2 picked2 qcnt2 An2 (updZ first cm ((f : Nat) : Int)) (updZ second cm s) T cm i ∧ rowL vals2 cn2 qi qo qs deed2 item2 side2 picked2 qcnt2 An2 (updZ first cm ((f : Nat) : Int)) (updZ second cm s) T cm i < 2 ^ cn2)
    (h1 : ∀ i, ni ≤ i → i < 12 → rowL vals2 cn2 qi qo qs deed2 item2 side2 picked2 qcnt2 An2 (updZ first cm ((f : Nat) : Int)) (updZ second cm s) T cm i = 1)
    (hm : ∀ i, i < ni → Tm2 (12 * cm + i) = rowL vals2 cn2 qi qo qs deed2 item2 side2 picked2 qcnt2 An2 (updZ first cm ((f : Nat) : Int)) (updZ second cm s) T cm i) (hm0 : ∀ r, r ≠ cm → ∀ i, i < 12 → Tm2 (12 * r + i) = Tm (12 * r + i)) (hm1 : ∀ i, ni ≤ i → i < 12 → Tm2 (12 * cm + i) = Tm (12 * cm + i)) :
    Rel kinds tgs (updZ first cm ((f : Nat) : Int)) (updZ second cm s) vals2 qs (updN hds x0 cm) deed2 item2 side2 picked2 qcnt2 An2 ris2 qi qo (wrT vals2 cn2 qi qo qs deed2 item2 side2 picked2 qcnt2 An2 (updZ first cm ((f : Nat) : Int)) (updZ second cm s) T cm) Tr Tm2 ni bc (cm + 1) cn2 qc := by
  have hq12 := h.q12
  have hni := h.1.1
  have hC := CI.more h.2.1 hq12 hv hc (by have := hp2.1.2; omega) (fun k hk => by obtain ⟨q1, q2, q3, q4, q5⟩ := hL k hk; exact ⟨q1, q2, q3, q4, q5, by rw [hA2, updN_n (by omega)], updZ_n (by omega), updZ_n (by omega)⟩) hl hqc9 hok h1
  have hrow : ∀ r, r < cm + 1 → ∀ i, i < ni → Tm2 (12 * r + i) = wrT vals2 cn2 qi qo qs deed2 item2 side2 picked2 qcnt2 An2 (updZ first cm ((f : Nat) : Int)) (updZ second cm s) T cm (12 * r + i) := fun r hr i hi => by
    by_cases e : r = cm
    · subst e
      rw [hm i hi, wrT_row hl hq12 (by omega)]
    · rw [hm0 r e i (by omega), wrT_other hl hq12 e (by omega)]
      exact h.2.2.2.1 r (by omega) i hi
  refine ⟨hA2 ▸ MI.more h.1 hcm9 hf9 hs9 ha.1 ha.2.1 ha.2.2 hp2 hc2 hT1 (fun c hc i hi => ?_), hC, h.2.2.1, hrow, fun c hc i h7 h8 => ?_⟩
  · rw [hrow c hc i hi]
    exact hC.1 c hc i (by omega)
  · by_cases e : c = cm
    · subst e
      rw [hm1 i h7 h8]
      exact h.2.2.2.2 c hc i h7 h8
    · rw [hm0 c e i h8]
      exact h.2.2.2.2 c hc i h7 h8
end RK
