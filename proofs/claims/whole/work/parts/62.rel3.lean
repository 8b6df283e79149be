/-! the class beside the reference: what holds between two calls -/
def Rel (kinds tgs first second vals qs : Nat → Int) (hds deed item side picked qcnt An ris qi qo T Tr Tm : Nat → Nat) (ni bc cm cn qc : Nat) : Prop :=
  MI vals ris cn kinds tgs first second qs hds An qi qo Tm ni bc cm qc ∧ CI vals cn qi qo qs qc deed item side picked qcnt An first second cm ni T ∧ T128 Tr ∧ (∀ r, r < cm → ∀ i, i < ni → Tm (12 * r + i) = T (12 * r + i)) ∧ (∀ c, c < 100 → ∀ i, ni ≤ i → i < 12 → Tm (12 * c + i) = 0)
theorem ct_cut {P Q : Nat → Bool} {n m : Nat} (h : ∀ i, i < n → P i = Q i) (h0 : ∀ i, n ≤ i → i < m → P i = false) (hn : n ≤ m) : fb_ct P m = fb_ct Q n := by
  have := ct_zero (p := P) (a := n) (m - n) (fun k h1 h2 => h0 k h1 (by omega))
  rw [show n + (m - n) = m by omega] at this
  rw [this]
  exact fb_ct_cong h
theorem fst_cong {P Q : Nat → Bool} : ∀ {n : Nat}, (∀ i, i < n → P i = Q i) → fst P n = fst Q n
  | 0, _ => rfl
  | n + 1, h => by
    have ih := fst_cong (n := n) (fun i hi => h i (by omega))
    show (if fst P n < n then fst P n else if P n = true then n else n + 1) = (if fst Q n < n then fst Q n else if Q n = true then n else n + 1)
    rw [ih, h n (by omega)]
theorem cnt_1 : cnt 1 = 1 := cnt_pow 0 (by decide)
theorem fsp_lt {T : Nat → Nat} {first second : Nat → Int} {cm j i : Nat} (hf : ∀ k, -1 ≤ first k ∧ first k < 100) (hs : ∀ k, -1 ≤ second k ∧ second k < 100) (hfc : ∀ k, k < cm → first k < (k : Int)) (hsc : ∀ k, k < cm → second k < (k : Int) ∧ (first k < 0 → second k < 0)) (hj : j < cm) (h : ¬ fsp T first second i j = -1) : (fsp T first second i j).toNat < cm := by
  have h1 := hf j
  have h2 := hs j
  have h3 := hfc j hj
  have h4 := (hsc j hj).1
  unfold fsp at h ⊢
  by_cases a : ¬ first j = -1 ∧ T (12 * j + i) = T (12 * (first j).toNat + i)
  · rw [if_pos a]
    omega
  · rw [if_neg a] at h ⊢
    by_cases b : ¬ second j = -1 ∧ T (12 * j + i) = T (12 * (second j).toNat + i)
    · rw [if_pos b]
      omega
    · rw [if_neg b] at h
      exact absurd rfl h
theorem fsp_cong {T T2 : Nat → Nat} {first second : Nat → Int} {cm j i : Nat} (hf : ∀ k, -1 ≤ first k ∧ first k < 100) (hs : ∀ k, -1 ≤ second k ∧ second k < 100) (hfc : ∀ k, k < cm → first k < (k : Int)) (hsc : ∀ k, k < cm → second k < (k : Int) ∧ (first k < 0 → second k < 0)) (hT : ∀ r, r < cm → T (12 * r + i) = T2 (12 * r + i)) (hj : j < cm) : fsp T first second i j = fsp T2 first second i j := by
  have h1 := hf j
  have h2 := hs j
  have h3 := hfc j hj
  have h4 := (hsc j hj).1
  unfold fsp
  have e0 := hT j hj
  by_cases a : first j = -1
  · simp only [a, not_true_eq_false, false_and, if_false]
    by_cases b : second j = -1
    · simp only [b, not_true_eq_false, false_and, if_false]
    · rw [e0, hT (second j).toNat (by omega)]
  · rw [e0, hT (first j).toNat (by omega)]
    by_cases b : second j = -1
    · simp only [b, not_true_eq_false, false_and, if_false]
    · rw [hT (second j).toNat (by omega)]
theorem blm_cong {T T2 : Nat → Nat} {first second : Nat → Int} {cm i : Nat} (hf : ∀ k, -1 ≤ first k ∧ first k < 100) (hs : ∀ k, -1 ≤ second k ∧ second k < 100) (hfc : ∀ k, k < cm → first k < (k : Int)) (hsc : ∀ k, k < cm → second k < (k : Int) ∧ (first k < 0 → second k < 0)) (hT : ∀ r, r < cm → T (12 * r + i) = T2 (12 * r + i)) : ∀ (n j : Nat), j < cm → blm T first second i n j = blm T2 first second i n j
  | 0, _, _ => rfl
  | n + 1, j, hj => by
    have e := fsp_cong hf hs hfc hsc hT hj
    show (if fsp T first second i j = -1 then j else blm T first second i n (fsp T first second i j).toNat) = (if fsp T2 first second i j = -1 then j else blm T2 first second i n (fsp T2 first second i j).toNat)
    rw [← e]
    by_cases a : fsp T first second i j = -1
    · rw [if_pos a, if_pos a]
    · rw [if_neg a, if_neg a]
      exact blm_cong hf hs hfc hsc hT n _ (fsp_lt hf hs hfc hsc hj a)
theorem smF_cong {T T2 : Nat → Nat} {vals : Nat → Int} {cn j : Nat} : ∀ n, (∀ i, i < n → T (12 * j + i) = T2 (12 * j + i)) → smF T vals cn j n = smF T2 vals cn j n
  | 0, _ => rfl
  | n + 1, h => by
    show smF T vals cn j n + _ = smF T2 vals cn j n + _
    rw [smF_cong n (fun i hi => h i (by omega)), h n (by omega)]
theorem smp_two {k : Nat} (h : ¬ k = 0) : ¬ (2 : Nat) ^ k = 1 := by
  obtain ⟨m, rfl⟩ : ∃ m, k = m + 1 := ⟨k - 1, by omega⟩
  rw [Nat.pow_succ]
  omega
/-- what an item adds to the sum: as the class asks, and as the reference does -/
theorem smp_item {S cn : Nat} {vals : Nat → Int} (hcn : cn ≤ 100) (h0 : vals 0 = -1000) (hp : ∀ k, 1 ≤ k → k < cn → -999 ≤ vals k) (p0 : 0 < S) (p1 : S < 2 ^ cn) : (if ¬ 1 < cnt S ∧ ¬ S = 1 then lone S vals cn else 0) = (if ¬ lone S vals cn = -1000 ∧ ((cnt S : Nat) : Int) = 1 then lone S vals cn else 0) := by
  by_cases c : 1 < cnt S
  · have a1 : ¬ (¬ 1 < cnt S ∧ ¬ S = 1) := fun q => q.1 c
    have a2 : ¬ (¬ lone S vals cn = -1000 ∧ ((cnt S : Nat) : Int) = 1) := fun q => by
      rw [zc1.mp q.2] at c
      exact absurd c (by decide)
    rw [if_neg a1, if_neg a2]
  · have hc8 : cn ≤ 128 := Nat.le_trans hcn (by decide)
    obtain ⟨k, hk, rfl⟩ := cnt_one p1 hc8 p0 c
    have hk8 : k < 128 := Nat.lt_of_lt_of_le hk hc8
    have hl : lone (2 ^ k) vals cn = vals k := lone_pow hk8 hk
    by_cases k0 : k = 0
    · have e1 : (2 : Nat) ^ k = 1 := by subst k0; rfl
      have e2 : lone (2 ^ k) vals cn = -1000 := by rw [hl, k0]; exact h0
      have a1 : ¬ (¬ 1 < cnt (2 ^ k) ∧ ¬ (2 : Nat) ^ k = 1) := fun q => q.2 e1
      have a2 : ¬ (¬ lone (2 ^ k) vals cn = -1000 ∧ ((cnt (2 ^ k) : Nat) : Int) = 1) := fun q => q.1 e2
      rw [if_neg a1, if_neg a2]
    · have hv := hp k (Nat.pos_of_ne_zero k0) hk
      have n2 : ¬ lone (2 ^ k) vals cn = -1000 := fun q => absurd hv (by rw [← hl, q]; decide)
      have a1 : ¬ 1 < cnt (2 ^ k) ∧ ¬ (2 : Nat) ^ k = 1 := ⟨c, smp_two k0⟩
      have a2 : ¬ lone (2 ^ k) vals cn = -1000 ∧ ((cnt (2 ^ k) : Nat) : Int) = 1 := ⟨n2, zc1.mpr (cnt_pow k hk8)⟩
      rw [if_pos a1, if_pos a2]
theorem smG_F {T T2 : Nat → Nat} {vals : Nat → Int} {cn j : Nat} (hcn : cn ≤ 100) (h0 : vals 0 = -1000) (hp : ∀ k, 1 ≤ k → k < cn → -999 ≤ vals k) : ∀ n, (∀ i, i < n → T (12 * j + i) = T2 (12 * j + i) ∧ 0 < T (12 * j + i) ∧ T (12 * j + i) < 2 ^ cn) → smG T vals cn j n = smF T2 vals cn j n
  | 0, _ => rfl
  | n + 1, h => by
    have ih : smG T vals cn j n = smF T2 vals cn j n := smG_F hcn h0 hp n (fun i hi => h i (Nat.lt_succ_of_lt hi))
    obtain ⟨e, p0, p1⟩ := h n (Nat.lt_succ_self n)
    show smG T vals cn j n + (if ¬ 1 < cnt (T (12 * j + n)) ∧ ¬ T (12 * j + n) = 1 then lone (T (12 * j + n)) vals cn else 0) = smF T2 vals cn j n + (if ¬ lone (T2 (12 * j + n)) vals cn = -1000 ∧ ((cnt (T2 (12 * j + n)) : Nat) : Int) = 1 then lone (T2 (12 * j + n)) vals cn else 0)
    rw [ih, smp_item hcn h0 hp p0 p1, e]
/-- items beside the quotes' hold what the merge tells first -/
theorem mqp_out {vals : Nat → Int} {cn m : Nat} {qi qo : Nat → Nat} {qs : Nat → Int} {f s : Nat} {T N : Nat → Nat} {i : Nat} (hi : m ≤ i) : ∀ (n : Nat), (∀ k, k < n → qi k < m ∧ qo k < m) → mqp vals cn qi qo qs f s T N n i = N i
  | 0, _ => rfl
  | n + 1, h => by
    have ih := mqp_out (vals := vals) (cn := cn) (qs := qs) (f := f) (s := s) (T := T) (N := N) hi n (fun k hk => h k (by omega))
    obtain ⟨h1, h2⟩ := h n (by omega)
    show mqstep vals cn qi qo qs f s T (mqp vals cn qi qo qs f s T N n) n i = _
    unfold mqstep
    split
    · rw [updN_n (by omega), updN_n (by omega)]
      exact ih
    · exact ih
section RL
variable {kinds tgs first second vals qs : Nat → Int} {hds deed item side picked qcnt An ris qi qo T Tr Tm Nw : Nat → Nat} {ni bc cm cn qc : Nat}
theorem Rel.mi (h : Rel kinds tgs first second vals qs hds deed item side picked qcnt An ris qi qo T Tr Tm ni bc cm cn qc) : MI vals ris cn kinds tgs first second qs hds An qi qo Tm ni bc cm qc := h.1
theorem Rel.q12 (h : Rel kinds tgs first second vals qs hds deed item side picked qcnt An ris qi qo T Tr Tm ni bc cm cn qc) : ∀ k, k < 10 → qi k < 12 ∧ qo k < 12 := by
  obtain ⟨hni, hbc1, hbc, hcm1, hcm, hcn1, hnm, hqc, hhd, htg, hf, hs, hfc, hsc, hAn, hTm, hao, hpal, hqb, hqi, htk, hkd⟩ := h.1
  exact fun k hk => ⟨(hqb k hk).1, (hqb k hk).2.1⟩
theorem Rel.cf (h : Rel kinds tgs first second vals qs hds deed item side picked qcnt An ris qi qo T Tr Tm ni bc cm cn qc) {r : Nat} (hr : r < cm) : fb_ct (fun i => decide (1 < cnt (T (12 * r + i)))) 12 = fb_ct (fun i => decide (1 < cnt (Tm (12 * r + i)))) ni :=
  ct_cut (fun i hi => by rw [h.2.2.2.1 r hr i hi]) (fun i h1 h2 => by rw [h.2.1.2.1 r hr i h1 h2, cnt_1]; rfl) h.1.1
theorem Rel.df (h : Rel kinds tgs first second vals qs hds deed item side picked qcnt An ris qi qo T Tr Tm ni bc cm cn qc) {r r2 : Nat} (hr : r < cm) (hr2 : r2 < cm) : fb_ct (fun i => !decide (T (12 * r + i) = T (12 * r2 + i))) 12 = fb_ct (fun i => !decide (Tm (12 * r + i) = Tm (12 * r2 + i))) ni :=
  ct_cut (fun i hi => by rw [h.2.2.2.1 r hr i hi, h.2.2.2.1 r2 hr2 i hi]) (fun i h1 h2 => by rw [h.2.1.2.1 r hr i h1 h2, h.2.1.2.1 r2 hr2 i h1 h2, decide_eq_true rfl]; rfl) h.1.1
theorem Rel.fc (h : Rel kinds tgs first second vals qs hds deed item side picked qcnt An ris qi qo T Tr Tm ni bc cm cn qc) {r : Nat} (hr : r < cm) : fst (fun i => decide (1 < cnt (T (12 * r + i)))) ni = fst (fun i => decide (1 < cnt (Tm (12 * r + i)))) ni := fst_cong (fun i hi => by rw [h.2.2.2.1 r hr i hi])
theorem Rel.bl (h : Rel kinds tgs first second vals qs hds deed item side picked qcnt An ris qi qo T Tr Tm ni bc cm cn qc) {r i : Nat} (hr : r < cm) (hi : i < ni) : blm T first second i 100 r = blm Tm first second i 100 r := by
  obtain ⟨hni, hbc1, hbc, hcm1, hcm, hcn1, hnm, hqc, hhd, htg, hf, hs, hfc, hsc, hAn, hTm, hao, hpal, hqb, hqi, htk, hkd⟩ := h.1
  exact blm_cong hf hs hfc hsc (fun r hr => (h.2.2.2.1 r hr i hi).symm) 100 r hr
theorem Rel.bd (h : Rel kinds tgs first second vals qs hds deed item side picked qcnt An ris qi qo T Tr Tm ni bc cm cn qc) {r : Nat} (hr : r < cm) (y : Nat) : fb_ct (fun i => decide (((blm T first second i 100 r : Nat) : Int) = ((y : Nat) : Int))) ni = fb_ct (fun i => decide (blm Tm first second i 100 r = y)) ni := fb_ct_cong fun i hi => by
  rw [h.bl hr hi]
  exact decide_eq_decide.mpr (by omega)
theorem Rel.qu (h : Rel kinds tgs first second vals qs hds deed item side picked qcnt An ris qi qo T Tr Tm ni bc cm cn qc) {q r : Nat} (hq : q < qc) (hr : r < cm) : qst vals cn (qs q) (T (12 * r + qi q)) (T (12 * r + qo q)) = qst vals cn (qs q) (Tm (12 * r + qi q)) (Tm (12 * r + qo q)) := by
  obtain ⟨hni, hbc1, hbc, hcm1, hcm, hcn1, hnm, hqc, hhd, htg, hf, hs, hfc, hsc, hAn, hTm, hao, hpal, hqb, hqi, htk, hkd⟩ := h.1
  rw [h.2.2.2.1 r hr _ (hqi q hq).1, h.2.2.2.1 r hr _ (hqi q hq).2]
theorem Rel.br (h : Rel kinds tgs first second vals qs hds deed item side picked qcnt An ris qi qo T Tr Tm ni bc cm cn qc) {r : Nat} (hr : r < cm) : fb_ct (fun q => decide (((qst vals cn (qs q) (T (12 * r + qi q)) (T (12 * r + qo q)) : Nat) : Int) = 1)) qc = fb_ct (fun q => decide (qst vals cn (qs q) (Tm (12 * r + qi q)) (Tm (12 * r + qo q)) = 1)) qc := fb_ct_cong fun q hq => by
  rw [h.qu hq hr]
  exact decide_eq_decide.mpr zc1
theorem Rel.sm (h : Rel kinds tgs first second vals qs hds deed item side picked qcnt An ris qi qo T Tr Tm ni bc cm cn qc) {r : Nat} (hr : r < cm) : smG T vals cn r ni = smF Tm vals cn r ni := by
  obtain ⟨hni, hbc1, hbc, hcm1, hcm, hcn1, hnm, hqc, hhd, htg, hf, hs, hfc, hsc, hAn, hTm, hao, hpal, hqb, hqi, htk, hkd⟩ := h.1
  obtain ⟨⟨-, hcn⟩, -, -, hrc, h0, hp, hv, hris9⟩ := id hpal
  exact smG_F hcn h0 hp ni (fun i hi => ⟨(h.2.2.2.1 r hr i hi).symm, h.2.1.1 r hr i (Nat.lt_of_lt_of_le hi hni)⟩)
theorem Rel.rp (h : Rel kinds tgs first second vals qs hds deed item side picked qcnt An ris qi qo T Tr Tm ni bc cm cn qc) {r i : Nat} (hr : r < cm) (hi : i < ni) : rpl vals cn qi qo qs deed item side picked qcnt An first second Tr (r + 1) (12 * r + i) = Tm (12 * r + i) := by
  have hni := h.1.1
  rw [rpl_row h.2.1 h.q12 (r + 1) (by omega) r (Nat.lt_succ_self r) i (by omega)]
  exact (h.2.2.2.1 r hr i hi).symm
/-- the row of a merge that is tried, beside what the reference tells -/
theorem mg_in {f s r i : Nat} (h : Rel kinds tgs first second vals qs hds deed item side picked qcnt An ris qi qo T Tr Tm ni bc cm cn qc) {T9 : Nat → Nat} (h9 : ∀ r, r < cm → ∀ i, i < 12 → T9 (12 * r + i) = T (12 * r + i)) (hf : f < cm) (hs : s < cm) (hr : cm ≤ r) (hi : i < ni) : mgT vals cn qi qo qs An T9 f s r qc (12 * r + i) = mgN vals cn qi qo qs An Tm f s ni qc Nw i := by
  obtain ⟨hni, hbc1, hbc, hcm1, hcm, hcn1, hnm, hqc, hhd, htg, hff, hss, hfc, hsc, hAn, hTm, hao, hpal, hqb, hqi, htk, hkd⟩ := h.1
  rw [mgT_row (by omega) (by omega) (fun k hk => h.q12 k (by omega)) (by omega)]
  have hb : gsh (An f &&& An s) (min f s) < cm := base_lt hf
  unfold mgN
  refine mqp_cong (m := ni) (fun i hi => ?_) (fun i hi => ?_) (fun i hi => ?_) qc hqi i hi
  · rw [h9 f hf i (by omega), h.2.2.2.1 f hf i hi]
  · rw [h9 s hs i (by omega), h.2.2.2.1 s hs i hi]
  · rw [npF_lt hi]
    show mg _ _ _ = mg _ _ _
    rw [h9 f hf i (by omega), h9 s hs i (by omega), h9 _ hb i (by omega), h.2.2.2.1 f hf i hi, h.2.2.2.1 s hs i hi, h.2.2.2.1 _ hb i hi]
theorem mg_out {f s r i : Nat} (h : Rel kinds tgs first second vals qs hds deed item side picked qcnt An ris qi qo T Tr Tm ni bc cm cn qc) {T9 : Nat → Nat} (h9 : ∀ r, r < cm → ∀ i, i < 12 → T9 (12 * r + i) = T (12 * r + i)) (hf : f < cm) (hs : s < cm) (hr : cm ≤ r) (h1 : ni ≤ i) (h2 : i < 12) : mgT vals cn qi qo qs An T9 f s r qc (12 * r + i) = 1 := by
  obtain ⟨hni, hbc1, hbc, hcm1, hcm, hcn1, hnm, hqc, hhd, htg, hff, hss, hfc, hsc, hAn, hTm, hao, hpal, hqb, hqi, htk, hkd⟩ := h.1
  rw [mgT_row (by omega) (by omega) (fun k hk => h.q12 k (by omega)) h2, mqp_out h1 qc hqi]
  show mg _ _ _ = 1
  rw [h9 f hf i h2, h9 s hs i h2, h.2.1.2.1 f hf i h1 h2, h.2.1.2.1 s hs i h1 h2]
  exact mg_a (Or.inl rfl)
theorem Rel.wc (h : Rel kinds tgs first second vals qs hds deed item side picked qcnt An ris qi qo T Tr Tm ni bc cm cn qc) {f s : Nat} (hf : f < cm) (hs : s < cm) : fb_ct (fun i => decide (1 < cnt (mgT vals cn qi qo qs An T f s 100 qc (12 * 100 + i)))) 12 = fb_ct (fun i => decide (1 < cnt (mgN vals cn qi qo qs An Tm f s ni qc Nw i))) ni := by
  have hcm := h.1.2.2.2.2.1
  exact ct_cut (fun i hi => by rw [mg_in (Nw := Nw) h (fun _ _ _ _ => rfl) hf hs hcm hi]) (fun i h1 h2 => by rw [mg_out h (fun _ _ _ _ => rfl) hf hs hcm h1 h2, cnt_1]; rfl) h.1.1
theorem mg_same (h : Rel kinds tgs first second vals qs hds deed item side picked qcnt An ris qi qo T Tr Tm ni bc cm cn qc) {T9 : Nat → Nat} (h9 : ∀ r, r < cm → ∀ i, i < 12 → T9 (12 * r + i) = T (12 * r + i)) (f s : Nat) {r : Nat} (hr : cm ≤ r) : ∀ r2, r2 < cm → ∀ i, i < 12 → mgT vals cn qi qo qs An T9 f s r qc (12 * r2 + i) = T (12 * r2 + i) := fun r2 h2 i hi => by
  have hqc := h.1.2.2.2.2.2.2.2.1
  rw [mgT_other (fun k hk => h.q12 k (by omega)) (by omega) hi]
  exact h9 r2 h2 i hi
theorem Rel.al (h : Rel kinds tgs first second vals qs hds deed item side picked qcnt An ris qi qo T Tr Tm ni bc cm cn qc) {f s : Nat} (hf : f < cm) (hs : s < cm) {T1 T2 : Nat → Nat} (e1 : T1 = mgT vals cn qi qo qs An T f s 100 qc) (e2 : T2 = mgT vals cn qi qo qs An T1 s f 101 qc) {N1 N2 : Nat → Nat} (e3 : N1 = mgN vals cn qi qo qs An Tm f s ni qc Nw) (e4 : N2 = mgN vals cn qi qo qs An Tm s f ni qc N1) : decide (((fb_ct (fun i => !decide (T2 (12 * 100 + i) = T2 (12 * 101 + i))) 12 : Nat) : Int) = 0) = decide (fst (fun i => !decide (N1 i = N2 i)) ni = ni) := by
  have hcm := h.1.2.2.2.2.1
  have hni := h.1.1
  have hqc := h.1.2.2.2.2.2.2.2.1
  have h9 : ∀ r, r < cm → ∀ i, i < 12 → T1 (12 * r + i) = T (12 * r + i) := e1 ▸ mg_same h (fun _ _ _ _ => rfl) f s hcm
  have a1 : ∀ i, i < 12 → T2 (12 * 100 + i) = T1 (12 * 100 + i) := fun i hi => by rw [e2]; exact mgT_other (fun k hk => h.q12 k (by omega)) (by omega) hi
  have b1 : ∀ i, i < ni → T2 (12 * 100 + i) = N1 i := fun i hi => by rw [a1 i (by omega), e1, e3]; exact mg_in h (fun _ _ _ _ => rfl) hf hs hcm hi
  have b2 : ∀ i, i < ni → T2 (12 * 101 + i) = N2 i := fun i hi => by rw [e2, e4]; exact mg_in h h9 hs hf (by omega) hi
  have c1 : ∀ i, ni ≤ i → i < 12 → T2 (12 * 100 + i) = 1 := fun i h1 h2 => by rw [a1 i h2, e1]; exact mg_out h (fun _ _ _ _ => rfl) hf hs hcm h1 h2
  have c2 : ∀ i, ni ≤ i → i < 12 → T2 (12 * 101 + i) = 1 := fun i h1 h2 => by rw [e2]; exact mg_out h h9 hs hf (by omega) h1 h2
  have e : fb_ct (fun i => !decide (T2 (12 * 100 + i) = T2 (12 * 101 + i))) 12 = fb_ct (fun i => !decide (N1 i = N2 i)) ni := ct_cut (fun i hi => by rw [b1 i hi, b2 i hi]) (fun i h1 h2 => by rw [c1 i h1 h2, c2 i h1 h2, decide_eq_true rfl]; rfl) hni
  rw [e]
  refine decide_eq_decide.mpr ⟨fun z => ?_, fun z => ?_⟩
  · have z2 : fb_ct (fun i => !decide (N1 i = N2 i)) ni = 0 := by omega
    have z3 := fb_ct_zero.mp z2
    have key : ∀ n, n ≤ ni → fst (fun i => !decide (N1 i = N2 i)) n = n := by
      intro n
      induction n with
      | zero => exact fun _ => rfl
      | succ n ih => exact fun hn => fst_miss (ih (by omega)) (z3 n (by omega))
    exact key ni (Nat.le_refl _)
  · have z2 : fb_ct (fun i => !decide (N1 i = N2 i)) ni = 0 := fb_ct_zero.mpr (fst_all z)
    omega
end RL
