/-! what stays of the rows as the tool goes on -/
theorem rowL_q {vals : Nat → Int} {cn qc : Nat} {qi qo qi2 qo2 : Nat → Nat} {qs qs2 : Nat → Int} {deed item side picked qcnt An : Nat → Nat} {first second : Nat → Int} {T : Nat → Nat} {j : Nat} (h : ∀ k, k < qc → qi2 k = qi k ∧ qo2 k = qo k ∧ qs2 k = qs k) (hj : deed j = 2 → qcnt j ≤ qc) (i : Nat) : rowL vals cn qi2 qo2 qs2 deed item side picked qcnt An first second T j i = rowL vals cn qi qo qs deed item side picked qcnt An first second T j i := by
  unfold rowL
  by_cases h1 : deed j = 1
  · rw [if_pos h1, if_pos h1]
  · rw [if_neg h1, if_neg h1]
    by_cases h2 : deed j = 2
    · have := hj h2
      rw [if_pos h2, if_pos h2, mqp_q (qcnt j) (fun k hk => h k (by omega))]
    · rw [if_neg h2, if_neg h2]
theorem rowL_v {vals vals2 : Nat → Int} {cn cn2 cm : Nat} {qi qo : Nat → Nat} {qs : Nat → Int} {deed item side picked qcnt An : Nat → Nat} {first second : Nat → Int} {T : Nat → Nat} {j : Nat} (h : ∀ k, k < cn → vals2 k = vals k) (hc : cn ≤ cn2) (hc2 : cn ≤ 128) (hT : TOK cn cm 12 T) (hjm : j ≤ cm) (hl : lok deed item side picked qcnt first second j) (hq : ∀ k, k < 10 → qi k < 12 ∧ qo k < 12) (i : Nat) : rowL vals2 cn2 qi qo qs deed item side picked qcnt An first second T j i = rowL vals cn qi qo qs deed item side picked qcnt An first second T j i := by
  unfold rowL
  by_cases h1 : deed j = 1
  · rw [if_pos h1, if_pos h1]
  · rw [if_neg h1, if_neg h1]
    by_cases h2 : deed j = 2
    · rw [if_pos h2, if_pos h2]
      obtain ⟨f, s, e1, e2, e3, e4, e5⟩ := hl.2.2.1 h2
      rw [e1, e2]
      show mqp vals2 cn2 qi qo qs f s T (mgF T f s (gsh (An f &&& An s) (min f s))) (qcnt j) i = mqp vals cn qi qo qs f s T (mgF T f s (gsh (An f &&& An s) (min f s))) (qcnt j) i
      rw [mqp_v h hc hc2 hT (show f < cm by omega) (show s < cm by omega) (show NOK cn 12 (mgF T f s (gsh (An f &&& An s) (min f s))) from fun i hi => mg_ok (hT f (by omega) i hi) (hT s (by omega) i hi)) (qcnt j) (fun k hk => hq k (by omega))]
    · rw [if_neg h2, if_neg h2]
/-- a log with one more line -/
theorem rowL_l {vals : Nat → Int} {cn cm : Nat} {qi qo : Nat → Nat} {qs : Nat → Int} {deed item side picked qcnt An deed2 item2 side2 picked2 qcnt2 An2 : Nat → Nat} {first second first2 second2 : Nat → Int} {T : Nat → Nat} {j : Nat} (hl : lok deed item side picked qcnt first second j) (hj : j < cm) (h : ∀ k, k < cm → deed2 k = deed k ∧ item2 k = item k ∧ side2 k = side k ∧ picked2 k = picked k ∧ qcnt2 k = qcnt k ∧ An2 k = An k ∧ first2 k = first k ∧ second2 k = second k) (i : Nat) : rowL vals cn qi qo qs deed2 item2 side2 picked2 qcnt2 An2 first2 second2 T j i = rowL vals cn qi qo qs deed item side picked qcnt An first second T j i := by
  obtain ⟨h1, h2, h3, h4, h5, h6, h7, h8⟩ := h j hj
  unfold rowL
  rw [h1, h2, h3, h4, h5, h7, h8]
  by_cases d1 : deed j = 1
  · rw [if_pos d1, if_pos d1]
  · rw [if_neg d1, if_neg d1]
    by_cases d2 : deed j = 2
    · rw [if_pos d2, if_pos d2]
      obtain ⟨f, s, e1, e2, e3, e4, e5⟩ := hl.2.2.1 d2
      rw [e1, e2]
      show mqp vals cn qi qo qs f s T (mgF T f s (gsh (An2 f &&& An2 s) (min f s))) (qcnt j) i = mqp vals cn qi qo qs f s T (mgF T f s (gsh (An f &&& An s) (min f s))) (qcnt j) i
      rw [(h f (by omega)).2.2.2.2.2.1, (h s (by omega)).2.2.2.2.2.1]
    · rw [if_neg d2, if_neg d2]
      by_cases d3 : deed j = 3
      · rw [if_pos d3, if_pos d3]
        obtain ⟨f, b, e1, e2, e3, e4, e5⟩ := hl.2.2.2 d3
        rw [(h (picked j) (by omega)).2.2.2.2.2.2.1]
      · rw [if_neg d3, if_neg d3]
theorem lok_l {cm : Nat} {deed item side picked qcnt deed2 item2 side2 picked2 qcnt2 : Nat → Nat} {first second first2 second2 : Nat → Int} {j : Nat} (hl : lok deed item side picked qcnt first second j) (hj : j < cm) (h : ∀ k, k < cm → deed2 k = deed k ∧ item2 k = item k ∧ side2 k = side k ∧ picked2 k = picked k ∧ qcnt2 k = qcnt k ∧ first2 k = first k ∧ second2 k = second k) : lok deed2 item2 side2 picked2 qcnt2 first2 second2 j := by
  obtain ⟨h1, h2, h3, h4, h5, h7, h8⟩ := h j hj
  unfold lok
  rw [h1, h2, h3, h4, h5, h7, h8]
  refine ⟨hl.1, hl.2.1, hl.2.2.1, fun d3 => ?_⟩
  obtain ⟨f, b, e1, e2, e3, e4, e5⟩ := hl.2.2.2 d3
  exact ⟨f, b, e1, e2, e3, by rw [(h (picked j) (by omega)).2.2.2.2.2.1]; exact e4, e5⟩
/-- what the class holds between two calls -/
def CI (vals : Nat → Int) (cn : Nat) (qi qo : Nat → Nat) (qs : Nat → Int) (qc : Nat) (deed item side picked qcnt An : Nat → Nat) (first second : Nat → Int) (cm ni : Nat) (T : Nat → Nat) : Prop :=
  TOK cn cm 12 T ∧ (∀ r, r < cm → ∀ i, ni ≤ i → i < 12 → T (12 * r + i) = 1) ∧ (∀ j, j < cm → lok deed item side picked qcnt first second j) ∧ (∀ j, j < cm → deed j = 2 → qcnt j ≤ qc) ∧ (∀ j, j < cm → ∀ i, i < 12 → T (12 * j + i) = rowL vals cn qi qo qs deed item side picked qcnt An first second T j i) ∧ T128 T
/-- a table with the same rows of the commits -/
theorem CI.T {vals : Nat → Int} {cn : Nat} {qi qo : Nat → Nat} {qs : Nat → Int} {qc : Nat} {deed item side picked qcnt An : Nat → Nat} {first second : Nat → Int} {cm ni : Nat} {T T2 : Nat → Nat} (h : CI vals cn qi qo qs qc deed item side picked qcnt An first second cm ni T) (hq : ∀ k, k < 10 → qi k < 12 ∧ qo k < 12) (hT : ∀ r, r < cm → ∀ i, i < 12 → T2 (12 * r + i) = T (12 * r + i)) (h128 : T128 T2) : CI vals cn qi qo qs qc deed item side picked qcnt An first second cm ni T2 := by
  obtain ⟨h1, h2, h3, h4, h5, h6⟩ := h
  refine ⟨fun r hr i hi => by rw [hT r hr i hi]; exact h1 r hr i hi, fun r hr i h7 h8 => by rw [hT r hr i h8]; exact h2 r hr i h7 h8, h3, h4, fun j hj i hi => ?_, h128⟩
  rw [hT j hj i hi, h5 j hj i hi]
  exact rowL_T (h3 j hj) hq (fun r hr i hi => (hT r (by omega) i hi).symm) hi
/-- the log read once more tells the same rows -/
theorem rpl_row {vals : Nat → Int} {cn : Nat} {qi qo : Nat → Nat} {qs : Nat → Int} {qc : Nat} {deed item side picked qcnt An : Nat → Nat} {first second : Nat → Int} {cm ni : Nat} {T Tr : Nat → Nat} (h : CI vals cn qi qo qs qc deed item side picked qcnt An first second cm ni T) (hq : ∀ k, k < 10 → qi k < 12 ∧ qo k < 12) : ∀ n, n ≤ cm → ∀ r, r < n → ∀ i, i < 12 → rpl vals cn qi qo qs deed item side picked qcnt An first second Tr n (12 * r + i) = T (12 * r + i)
  | 0, _, r, hr, _, _ => absurd hr (Nat.not_lt_zero r)
  | n + 1, hn, r, hr, i, hi => by
    have ih := rpl_row (Tr := Tr) h hq n (by omega)
    have hl := h.2.2.1 n (by omega)
    show wrT vals cn qi qo qs deed item side picked qcnt An first second (rpl vals cn qi qo qs deed item side picked qcnt An first second Tr n) n (12 * r + i) = _
    by_cases e : r = n
    · subst e
      rw [wrT_row hl hq hi, h.2.2.2.2.1 r (by omega) i hi]
      exact rowL_T hl hq (fun r2 h2 i2 hi2 => ih r2 h2 i2 hi2) hi
    · rw [wrT_other hl hq e hi]
      exact ih r (by omega) i hi
/-- a commit is made: the line cm of the log, and its row -/
theorem CI.more {vals vals2 : Nat → Int} {cn cn2 : Nat} {qi qo : Nat → Nat} {qs : Nat → Int} {qc : Nat} {deed item side picked qcnt An deed2 item2 side2 picked2 qcnt2 An2 : Nat → Nat} {first second first2 second2 : Nat → Int} {cm ni : Nat} {T : Nat → Nat} (h : CI vals cn qi qo qs qc deed item side picked qcnt An first second cm ni T) (hq : ∀ k, k < 10 → qi k < 12 ∧ qo k < 12)
    (hv : ∀ k, k < cn → vals2 k = vals k) (hc : cn ≤ cn2) (hc2 : cn2 ≤ 128) (hL : ∀ k, k < cm → deed2 k = deed k ∧ item2 k = item k ∧ side2 k = side k ∧ picked2 k = picked k ∧ qcnt2 k = qcnt k ∧ An2 k = An k ∧ first2 k = first k ∧ second2 k = second k) (hl : lok deed2 item2 side2 picked2 qcnt2 first2 second2 cm) (hqc : deed2 cm = 2 → qcnt2 cm ≤ qc)
    (hok : ∀ i, i < 12 → 0 < rowL vals2 cn2 qi qo qs deed2 item2 side2 picked2 qcnt2 An2 first2 second2 T cm i ∧ rowL vals2 cn2 qi qo qs deed2 item2 side2 picked2 qcnt2 An2 first2 second2 T cm i < 2 ^ cn2) (h1 : ∀ i, ni ≤ i → i < 12 → rowL vals2 cn2 qi qo qs deed2 item2 side2 picked2 qcnt2 An2 first2 second2 T cm i = 1) : CI vals2 cn2 qi qo qs qc deed2 item2 side2 picked2 qcnt2 An2 first2 second2 (cm + 1) ni (wrT vals2 cn2 qi qo qs deed2 item2 side2 picked2 qcnt2 An2 first2 second2 T cm) := by
  obtain ⟨a1, a2, a3, a4, a5, a6⟩ := h
  have hrow : ∀ i, i < 12 → wrT vals2 cn2 qi qo qs deed2 item2 side2 picked2 qcnt2 An2 first2 second2 T cm (12 * cm + i) = rowL vals2 cn2 qi qo qs deed2 item2 side2 picked2 qcnt2 An2 first2 second2 T cm i := fun i hi => wrT_row hl hq hi
  have hold : ∀ r, r < cm → ∀ i, i < 12 → wrT vals2 cn2 qi qo qs deed2 item2 side2 picked2 qcnt2 An2 first2 second2 T cm (12 * r + i) = T (12 * r + i) := fun r hr i hi => wrT_other hl hq (by omega) hi
  have hlok : ∀ j, j < cm + 1 → lok deed2 item2 side2 picked2 qcnt2 first2 second2 j := fun j hj => by
    by_cases e : j = cm
    · subst e; exact hl
    · exact lok_l (a3 j (by omega)) (show j < cm by omega) (fun k hk => by obtain ⟨q1, q2, q3, q4, q5, q6, q7, q8⟩ := hL k hk; exact ⟨q1, q2, q3, q4, q5, q7, q8⟩)
  refine ⟨fun r hr i hi => ?_, fun r hr i h7 h8 => ?_, hlok, fun j hj hd => ?_, fun j hj i hi => ?_, wrT128 a6 hl⟩
  · by_cases e : r = cm
    · subst e
      rw [hrow i hi]
      exact hok i hi
    · rw [hold r (by omega) i hi]
      have := a1 r (by omega) i hi
      exact ⟨this.1, Nat.lt_of_lt_of_le this.2 (Nat.pow_le_pow_right (by decide) hc)⟩
  · by_cases e : r = cm
    · subst e
      rw [hrow i h8]
      exact h1 i h7 h8
    · rw [hold r (by omega) i h8]
      exact a2 r (by omega) i h7 h8
  · by_cases e : j = cm
    · subst e; exact hqc hd
    · obtain ⟨q1, q2, q3, q4, q5, q6, q7, q8⟩ := hL j (by omega)
      rw [q5]
      exact a4 j (by omega) (by rw [← q1]; exact hd)
  · have e2 : rowL vals2 cn2 qi qo qs deed2 item2 side2 picked2 qcnt2 An2 first2 second2 (wrT vals2 cn2 qi qo qs deed2 item2 side2 picked2 qcnt2 An2 first2 second2 T cm) j i = rowL vals2 cn2 qi qo qs deed2 item2 side2 picked2 qcnt2 An2 first2 second2 T j i := rowL_T (hlok j hj) hq (fun r hr i hi => hold r (by omega) i hi) hi
    rw [e2]
    by_cases e : j = cm
    · subst e
      exact hrow i hi
    · rw [hold j (by omega) i hi, a5 j (by omega) i hi, rowL_l (a3 j (by omega)) (show j < cm by omega) hL i]
      exact (rowL_v hv hc (by omega) a1 (by omega) (a3 j (by omega)) hq i).symm
