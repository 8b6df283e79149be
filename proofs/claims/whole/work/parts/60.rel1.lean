/-! rows of the tables, and what a merge tells, as functions of an item -/
theorem qp_other {vals : Nat → Int} {cn : Nat} {qi qo : Nat → Nat} {qs : Nat → Int} {f s r : Nat} {U : Nat → Nat} : ∀ (n : Nat), (∀ k, k < n → qi k < 12 ∧ qo k < 12) → ∀ r2 i, r2 ≠ r → i < 12 → qp vals cn qi qo qs f s r U n (12 * r2 + i) = U (12 * r2 + i)
  | 0, _, _, _, _, _ => rfl
  | n + 1, hq, r2, i, hr, hi => by
    have ih := qp_other (vals := vals) (cn := cn) (qs := qs) (f := f) (s := s) (r := r) (U := U) n (fun k hk => hq k (by omega)) r2 i hr hi
    obtain ⟨h1, h2⟩ := hq n (by omega)
    show qstep vals cn qi qo qs f s r (qp vals cn qi qo qs f s r U n) n (12 * r2 + i) = _
    unfold qstep
    split
    · rw [updN_n (by omega), updN_n (by omega)]
      exact ih
    · exact ih
theorem zc0 {a : Nat} : ((a : Nat) : Int) = 0 ↔ a = 0 := by omega
theorem zc1 {a : Nat} : ((a : Nat) : Int) = 1 ↔ a = 1 := by omega
/-- the row of a class's merge is the reference's merge -/
theorem qp_mqp {vals : Nat → Int} {cn : Nat} {qi qo : Nat → Nat} {qs : Nat → Int} {f s r : Nat} {U N : Nat → Nat} (hf : f ≠ r) (hs : s ≠ r) (hN : ∀ i, i < 12 → N i = U (12 * r + i)) : ∀ (n : Nat), (∀ k, k < n → qi k < 12 ∧ qo k < 12) → ∀ i, i < 12 → qp vals cn qi qo qs f s r U n (12 * r + i) = mqp vals cn qi qo qs f s U N n i
  | 0, _, i, hi => (hN i hi).symm
  | n + 1, hq, i, hi => by
    have hq' : ∀ k, k < n → qi k < 12 ∧ qo k < 12 := fun k hk => hq k (by omega)
    have ih := qp_mqp (vals := vals) (cn := cn) (qs := qs) hf hs hN n hq'
    obtain ⟨h1, h2⟩ := hq n (by omega)
    have e1 := qp_other (vals := vals) (cn := cn) (qs := qs) (f := f) (s := s) (r := r) (U := U) n hq' f (qi n) hf h1
    have e2 := qp_other (vals := vals) (cn := cn) (qs := qs) (f := f) (s := s) (r := r) (U := U) n hq' f (qo n) hf h2
    have e3 := qp_other (vals := vals) (cn := cn) (qs := qs) (f := f) (s := s) (r := r) (U := U) n hq' s (qi n) hs h1
    have e4 := qp_other (vals := vals) (cn := cn) (qs := qs) (f := f) (s := s) (r := r) (U := U) n hq' s (qo n) hs h2
    have e5 := ih (qi n) h1
    have e6 := ih (qo n) h2
    show qstep vals cn qi qo qs f s r (qp vals cn qi qo qs f s r U n) n (12 * r + i) = mqstep vals cn qi qo qs f s U (mqp vals cn qi qo qs f s U N n) n i
    unfold qstep mqstep
    rw [e1, e2, e3, e4, e5, e6]
    simp only [zc0, zc1]
    by_cases c : qst vals cn (qs n) (U (12 * f + qi n)) (U (12 * f + qo n)) = 0 ∧ qst vals cn (qs n) (U (12 * s + qi n)) (U (12 * s + qo n)) = 0 ∧ qst vals cn (qs n) (mqp vals cn qi qo qs f s U N n (qi n)) (mqp vals cn qi qo qs f s U N n (qo n)) = 1
    · rw [if_pos c, if_pos c]
      unfold updN
      by_cases d : i = qo n
      · subst d
        rw [if_pos rfl, if_pos rfl, if_neg (show ¬ 12 * f + qo n = 12 * r + qi n by omega), if_neg (show ¬ 12 * s + qo n = 12 * r + qi n by omega), e2, e4]
      · rw [if_neg (show ¬ 12 * r + i = 12 * r + qo n by omega), if_neg d]
        by_cases d2 : i = qi n
        · subst d2
          rw [if_pos rfl, if_pos rfl]
        · rw [if_neg (show ¬ 12 * r + i = 12 * r + qi n by omega), if_neg d2]
          exact ih i hi
    · rw [if_neg c, if_neg c]
      exact ih i hi
/-- a merge looks at the told items alone -/
theorem mqp_cong {vals : Nat → Int} {cn m : Nat} {qi qo : Nat → Nat} {qs : Nat → Int} {f s : Nat} {T T2 N N2 : Nat → Nat} (hf : ∀ i, i < m → T (12 * f + i) = T2 (12 * f + i)) (hs : ∀ i, i < m → T (12 * s + i) = T2 (12 * s + i)) (hN : ∀ i, i < m → N i = N2 i) : ∀ (n : Nat), (∀ k, k < n → qi k < m ∧ qo k < m) → ∀ i, i < m → mqp vals cn qi qo qs f s T N n i = mqp vals cn qi qo qs f s T2 N2 n i
  | 0, _, i, hi => hN i hi
  | n + 1, hq, i, hi => by
    have ih := mqp_cong (vals := vals) (cn := cn) (qs := qs) hf hs hN n (fun k hk => hq k (by omega))
    obtain ⟨h1, h2⟩ := hq n (by omega)
    show mqstep vals cn qi qo qs f s T (mqp vals cn qi qo qs f s T N n) n i = mqstep vals cn qi qo qs f s T2 (mqp vals cn qi qo qs f s T2 N2 n) n i
    unfold mqstep
    rw [hf _ h1, hf _ h2, hs _ h1, hs _ h2, ih _ h1, ih _ h2]
    split
    · unfold updN
      by_cases d : i = qo n
      · rw [if_pos d, if_pos d]
      · rw [if_neg d, if_neg d]
        by_cases d2 : i = qi n
        · rw [if_pos d2, if_pos d2]
        · rw [if_neg d2, if_neg d2]
          exact ih i hi
    · exact ih i hi
/-- quotes told later are not looked at -/
theorem mqp_q {vals : Nat → Int} {cn : Nat} {qi qo qi2 qo2 : Nat → Nat} {qs qs2 : Nat → Int} {f s : Nat} {T N : Nat → Nat} : ∀ (n : Nat), (∀ k, k < n → qi2 k = qi k ∧ qo2 k = qo k ∧ qs2 k = qs k) → mqp vals cn qi2 qo2 qs2 f s T N n = mqp vals cn qi qo qs f s T N n
  | 0, _ => rfl
  | n + 1, h => by
    have ih := mqp_q (vals := vals) (cn := cn) (f := f) (s := s) (T := T) (N := N) n (fun k hk => h k (by omega))
    obtain ⟨h1, h2, h3⟩ := h n (by omega)
    show mqstep vals cn qi2 qo2 qs2 f s T (mqp vals cn qi2 qo2 qs2 f s T N n) n = mqstep vals cn qi qo qs f s T (mqp vals cn qi qo qs f s T N n) n
    unfold mqstep
    rw [ih, h1, h2, h3]
/-- a palette that grows changes no quote between sets that were there -/
theorem lone_ext {vals vals2 : Nat → Int} {cn cn2 k : Nat} (h : ∀ k, k < cn → vals2 k = vals k) (hc : cn ≤ cn2) (hc2 : cn ≤ 128) (hk : k < cn) : lone (2 ^ k) vals2 cn2 = lone (2 ^ k) vals cn := by
  rw [lone_pow (by omega) hk, lone_pow (by omega) (by omega), h k hk]
theorem qst_ext {vals vals2 : Nat → Int} {cn cn2 : Nat} {sh : Int} {a b : Nat} (h : ∀ k, k < cn → vals2 k = vals k) (hc : cn ≤ cn2) (hc2 : cn ≤ 128) (ha : 0 < a ∧ a < 2 ^ cn) (hb : 0 < b ∧ b < 2 ^ cn) : qst vals2 cn2 sh a b = qst vals cn sh a b := by
  unfold qst
  by_cases c : 1 < cnt a ∨ 1 < cnt b
  · rw [if_pos c, if_pos c]
  · rw [if_neg c, if_neg c]
    obtain ⟨k1, hk1, rfl⟩ := cnt_one ha.2 hc2 ha.1 (fun x => c (Or.inl x))
    obtain ⟨k2, hk2, rfl⟩ := cnt_one hb.2 hc2 hb.1 (fun x => c (Or.inr x))
    rw [lone_ext h hc hc2 hk1, lone_ext h hc hc2 hk2]
theorem mqp_v {vals vals2 : Nat → Int} {cn cn2 cm m : Nat} {qi qo : Nat → Nat} {qs : Nat → Int} {f s : Nat} {T N : Nat → Nat} (h : ∀ k, k < cn → vals2 k = vals k) (hc : cn ≤ cn2) (hc2 : cn ≤ 128) (hT : TOK cn cm m T) (hf : f < cm) (hs : s < cm) (hN : NOK cn m N) : ∀ (n : Nat), (∀ k, k < n → qi k < m ∧ qo k < m) → mqp vals2 cn2 qi qo qs f s T N n = mqp vals cn qi qo qs f s T N n
  | 0, _ => rfl
  | n + 1, hq => by
    have ih := mqp_v (vals := vals) (vals2 := vals2) (qs := qs) h hc hc2 hT hf hs hN n (fun k hk => hq k (by omega))
    obtain ⟨h1, h2⟩ := hq n (by omega)
    have hk : NOK cn m (mqp vals cn qi qo qs f s T N n) := mqp_ok (qc := n) hT hf hs hN (fun k hk => hq k (by omega)) n (Nat.le_refl _)
    show mqstep vals2 cn2 qi qo qs f s T (mqp vals2 cn2 qi qo qs f s T N n) n = mqstep vals cn qi qo qs f s T (mqp vals cn qi qo qs f s T N n) n
    unfold mqstep
    rw [ih, qst_ext h hc hc2 (hT f hf _ h1) (hT f hf _ h2), qst_ext h hc hc2 (hT s hs _ h1) (hT s hs _ h2), qst_ext h hc hc2 (hk _ h1) (hk _ h2)]
/-- the row of a merge -/
theorem mgT_row {vals : Nat → Int} {cn : Nat} {qi qo : Nat → Nat} {qs : Nat → Int} {An T : Nat → Nat} {f s r n : Nat} (hf : f < r) (hs : s < r) (hq : ∀ k, k < n → qi k < 12 ∧ qo k < 12) {i : Nat} (hi : i < 12) : mgT vals cn qi qo qs An T f s r n (12 * r + i) = mqp vals cn qi qo qs f s T (mgF T f s (gsh (An f &&& An s) (min f s))) n i := by
  unfold mgT
  rw [qp_mqp (N := mgF T f s (gsh (An f &&& An s) (min f s))) (by omega) (by omega) (fun i hi => (rowP_in hi).symm) n hq i hi]
  exact mqp_cong (m := 12) (fun i hi => rowP_else (Nat.le_refl _) hi (by omega)) (fun i hi => rowP_else (Nat.le_refl _) hi (by omega)) (fun _ _ => rfl) n hq i hi
theorem mgT_other {vals : Nat → Int} {cn : Nat} {qi qo : Nat → Nat} {qs : Nat → Int} {An T : Nat → Nat} {f s r n : Nat} (hq : ∀ k, k < n → qi k < 12 ∧ qo k < 12) {r2 i : Nat} (hr : r2 ≠ r) (hi : i < 12) : mgT vals cn qi qo qs An T f s r n (12 * r2 + i) = T (12 * r2 + i) := by
  unfold mgT
  rw [qp_other n hq r2 i hr hi, rowP_else (Nat.le_refl _) hi hr]
/-- a row written changes no other -/
theorem wrT_other {vals : Nat → Int} {cn : Nat} {qi qo : Nat → Nat} {qs : Nat → Int} {deed item side picked qcnt An : Nat → Nat} {first second : Nat → Int} {T : Nat → Nat} {j : Nat} (hl : lok deed item side picked qcnt first second j) (hq : ∀ k, k < 10 → qi k < 12 ∧ qo k < 12) {r i : Nat} (hr : r ≠ j) (hi : i < 12) : wrT vals cn qi qo qs deed item side picked qcnt An first second T j (12 * r + i) = T (12 * r + i) := by
  unfold wrT
  by_cases h1 : deed j = 1
  · rw [if_pos h1]
    obtain ⟨f, e1, e2, e3, e4⟩ := hl.2.1 h1
    rw [updN_n (by omega), rowP_else (Nat.le_refl _) hi hr]
  · rw [if_neg h1]
    by_cases h2 : deed j = 2
    · rw [if_pos h2]
      obtain ⟨f, s, e1, e2, e3, e4, e5⟩ := hl.2.2.1 h2
      exact mgT_other (fun k hk => hq k (by omega)) hr hi
    · rw [if_neg h2]
      by_cases h3 : deed j = 3
      · rw [if_pos h3, rowP_else (Nat.le_refl _) hi hr]
      · rw [if_neg h3, rowP_else (Nat.le_refl _) hi hr]
/-- what a line of the log tells for an item, out of the rows before -/
def rowL (vals : Nat → Int) (cn : Nat) (qi qo : Nat → Nat) (qs : Nat → Int) (deed item side picked qcnt An : Nat → Nat) (first second : Nat → Int) (T : Nat → Nat) (j i : Nat) : Nat :=
  if deed j = 1 then (if i = item j then 2 ^ side j else T (12 * (first j).toNat + i))
  else if deed j = 2 then mqp vals cn qi qo qs (first j).toNat (second j).toNat T (mgF T (first j).toNat (second j).toNat (gsh (An (first j).toNat &&& An (second j).toNat) (min (first j).toNat (second j).toNat))) (qcnt j) i
  else if deed j = 3 then pickF T (first j).toNat (picked j) (first (picked j)).toNat i
  else 1
theorem wrT_row {vals : Nat → Int} {cn : Nat} {qi qo : Nat → Nat} {qs : Nat → Int} {deed item side picked qcnt An : Nat → Nat} {first second : Nat → Int} {T : Nat → Nat} {j : Nat} (hl : lok deed item side picked qcnt first second j) (hq : ∀ k, k < 10 → qi k < 12 ∧ qo k < 12) {i : Nat} (hi : i < 12) : wrT vals cn qi qo qs deed item side picked qcnt An first second T j (12 * j + i) = rowL vals cn qi qo qs deed item side picked qcnt An first second T j i := by
  unfold wrT rowL
  by_cases h1 : deed j = 1
  · rw [if_pos h1, if_pos h1]
    unfold updN
    by_cases e : i = item j
    · rw [if_pos e, if_pos (by omega)]
    · rw [if_neg e, if_neg (by omega), rowP_in hi]
  · rw [if_neg h1, if_neg h1]
    by_cases h2 : deed j = 2
    · rw [if_pos h2, if_pos h2]
      obtain ⟨f, s, e1, e2, e3, e4, e5⟩ := hl.2.2.1 h2
      rw [e1, e2]
      exact mgT_row e3 e4 (fun k hk => hq k (by omega)) hi
    · rw [if_neg h2, if_neg h2]
      by_cases h3 : deed j = 3
      · rw [if_pos h3, if_pos h3, rowP_in hi]
      · rw [if_neg h3, if_neg h3, rowP_in hi]
/-- it looks at earlier rows alone -/
theorem rowL_T {vals : Nat → Int} {cn : Nat} {qi qo : Nat → Nat} {qs : Nat → Int} {deed item side picked qcnt An : Nat → Nat} {first second : Nat → Int} {T T2 : Nat → Nat} {j : Nat} (hl : lok deed item side picked qcnt first second j) (hq : ∀ k, k < 10 → qi k < 12 ∧ qo k < 12) (hT : ∀ r, r < j → ∀ i, i < 12 → T (12 * r + i) = T2 (12 * r + i)) {i : Nat} (hi : i < 12) : rowL vals cn qi qo qs deed item side picked qcnt An first second T j i = rowL vals cn qi qo qs deed item side picked qcnt An first second T2 j i := by
  unfold rowL
  by_cases h1 : deed j = 1
  · rw [if_pos h1, if_pos h1]
    obtain ⟨f, e1, e2, e3, e4⟩ := hl.2.1 h1
    rw [e1]
    show (if _ then _ else T (12 * f + i)) = (if _ then _ else T2 (12 * f + i))
    rw [hT f e2 i hi]
  · rw [if_neg h1, if_neg h1]
    by_cases h2 : deed j = 2
    · rw [if_pos h2, if_pos h2]
      obtain ⟨f, s, e1, e2, e3, e4, e5⟩ := hl.2.2.1 h2
      rw [e1, e2]
      show mqp vals cn qi qo qs f s T (mgF T f s (gsh (An f &&& An s) (min f s))) (qcnt j) i = mqp vals cn qi qo qs f s T2 (mgF T2 f s (gsh (An f &&& An s) (min f s))) (qcnt j) i
      have hb : gsh (An f &&& An s) (min f s) < j := base_lt e3
      refine mqp_cong (m := 12) (hT f e3) (hT s e4) (fun i hi => ?_) (qcnt j) (fun k hk => hq k (by omega)) i hi
      show mg _ _ _ = mg _ _ _
      rw [hT f e3 i hi, hT s e4 i hi, hT _ hb i hi]
    · rw [if_neg h2, if_neg h2]
      by_cases h3 : deed j = 3
      · rw [if_pos h3, if_pos h3]
        obtain ⟨f, b, e1, e2, e3, e4, e5⟩ := hl.2.2.2 h3
        rw [e1, e4]
        show pkc (T (12 * picked j + i)) (T (12 * b + i)) (T (12 * f + i)) = pkc (T2 (12 * picked j + i)) (T2 (12 * b + i)) (T2 (12 * f + i))
        rw [hT _ e3 i hi, hT b e5 i hi, hT f e2 i hi]
      · rw [if_neg h3, if_neg h3]
