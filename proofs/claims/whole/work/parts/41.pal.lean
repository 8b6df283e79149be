theorem ct_mono {p : Nat → Bool} {a b : Nat} (h : a ≤ b) : fb_ct p a ≤ fb_ct p b := by
  obtain ⟨d, rfl⟩ : ∃ d, b = a + d := ⟨b - a, by omega⟩
  clear h
  induction d with
  | zero => exact Nat.le_refl _
  | succ d ih =>
    show _ ≤ fb_ct p (a + d + 1)
    rw [fb_ct_succ]
    omega
/-! the palette's order as a fact about counts -/
theorem tb_lt {S n k : Nat} (h : S < 2 ^ n) (hk : n ≤ k) : S.testBit k = false := Nat.testBit_lt_two_pow (Nat.lt_of_lt_of_le h (Nat.pow_le_pow_right (by decide) hk))
theorem ct_zero {p : Nat → Bool} {a : Nat} : ∀ b, (∀ k, a ≤ k → k < a + b → p k = false) → fb_ct p (a + b) = fb_ct p a
  | 0, _ => rfl
  | b + 1, h => by
    show fb_ct p (a + b + 1) = _
    rw [fb_ct_succ, ct_zero b (fun k h1 h2 => h k h1 (by omega)), h (a + b) (by omega) (by omega)]
    rfl
/-- a set below 2^n is counted by its n first numbers -/
theorem cnt_cn {S n : Nat} (h : S < 2 ^ n) (hn : n ≤ 128) : fb_ct (fun j => S.testBit j) n = cnt S := by
  unfold cnt
  have := ct_zero (p := fun j => S.testBit j) (a := n) (128 - n) (fun k h1 _ => tb_lt h h1)
  rw [show n + (128 - n) = 128 by omega] at this
  exact this.symm
theorem ct_pos {p : Nat → Bool} : ∀ {n k : Nat}, k < n → p k = true → 0 < fb_ct p n
  | 0, _, h, _ => absurd h (Nat.not_lt_zero _)
  | n + 1, k, h, hp => by
    rw [fb_ct_succ]
    by_cases e : k = n
    · subst e
      rw [hp]
      exact Nat.lt_of_lt_of_le (by decide) (Nat.le_add_left _ _)
    · have := ct_pos (n := n) (by omega) hp
      omega
theorem ct_ex {p : Nat → Bool} : ∀ {n : Nat}, 0 < fb_ct p n → ∃ k, k < n ∧ p k = true
  | 0, h => absurd h (Nat.not_lt_zero _)
  | n + 1, h => by
    by_cases e : p n = true
    · exact ⟨n, Nat.lt_succ_self n, e⟩
    · rw [fb_ct_succ, Bool.eq_false_iff.mpr e] at h
      obtain ⟨k, h1, h2⟩ := ct_ex (n := n) h
      exact ⟨k, Nat.lt_succ_of_lt h1, h2⟩
/-- the palette: its order has each number once, by rising values; the number 0 is nothing -/
def PalOK (vals : Nat → Int) (ris : Nat → Nat) (cn : Nat) : Prop := (1 ≤ cn ∧ cn ≤ 100) ∧ (∀ P : Nat → Bool, fb_ct (fun p => P (ris p)) cn = fb_ct P cn) ∧ (∀ p q, p < q → q < cn → vals (ris p) < vals (ris q)) ∧ (∀ k, k < cn → ris k < cn) ∧ vals 0 = -1000 ∧ (∀ k, 1 ≤ k → k < cn → -999 ≤ vals k) ∧ (∀ k, -1000 ≤ vals k ∧ vals k ≤ 999) ∧ (∀ k, ris k < 100)
theorem PalOK.on {vals : Nat → Int} {ris : Nat → Nat} {cn k : Nat} (h : PalOK vals ris cn) (hk : k < cn) : ∃ p, p < cn ∧ ris p = k := by
  have h1 : 0 < fb_ct (fun p => decide (ris p = k)) cn := by
    rw [h.2.1 (fun j => decide (j = k))]
    exact ct_pos hk (decide_eq_true rfl)
  obtain ⟨p, h2, h3⟩ := ct_ex h1
  exact ⟨p, h2, of_decide_eq_true h3⟩
/-- how many of a set's numbers have a lesser value -/
def lss (vals : Nat → Int) (cn S k : Nat) : Nat := fb_ct (fun j => S.testBit j && decide (vals j < vals k)) cn
theorem lss_ris {vals : Nat → Int} {ris : Nat → Nat} {cn S q : Nat} (h : PalOK vals ris cn) (hq : q < cn) : lss vals cn S (ris q) = fb_ct (fun p => S.testBit (ris p)) q := by
  unfold lss
  rw [← h.2.1 (fun j => S.testBit j && decide (vals j < vals (ris q)))]
  have h1 := ct_zero (p := fun p => S.testBit (ris p) && decide (vals (ris p) < vals (ris q))) (a := q) (cn - q) (fun k h1 h2 => by
    have : ¬ vals (ris k) < vals (ris q) := by
      by_cases e : k = q
      · subst e; omega
      · have := h.2.2.1 q k (by omega) (by omega)
        omega
    rw [decide_eq_false this, Bool.and_false])
  rw [show q + (cn - q) = cn by omega] at h1
  rw [h1]
  exact fb_ct_cong fun k hk => by
    show (S.testBit (ris k) && decide (vals (ris k) < vals (ris q))) = S.testBit (ris k)
    rw [decide_eq_true (h.2.2.1 k q hk hq), Bool.and_true]
/-- the reference's test of a number -/
def sZ (vals : Nat → Int) (cn S : Nat) (ix : Int) (k : Nat) : Bool := S.testBit k && decide (((lss vals cn S k : Nat) : Int) = ix)
theorem sIx_0 {Z : Nat → Bool} {ris : Nat → Nat} {ix : Int} : ∀ n, (∀ q, q < n → Z q = true → ¬ ((fb_ct Z q : Nat) : Int) = ix) → sIx Z ris ix n = -1
  | 0, _ => rfl
  | n + 1, h => by
    have e := sIx_0 (ris := ris) n (fun q hq => h q (Nat.lt_succ_of_lt hq))
    show (if sIx Z ris ix n = -1 then _ else sIx Z ris ix n) = _
    rw [if_pos e]
    exact if_neg (fun x => h n (Nat.lt_succ_self n) x.1 x.2)
theorem sof_hit {vals : Nat → Int} {ris : Nat → Nat} {cn S k : Nat} {ix : Int} (h : PalOK vals ris cn) (hk : k < cn) (h1 : S.testBit k = true) (h2 : ((lss vals cn S k : Nat) : Int) = ix) : sIx (fun j => S.testBit (ris j)) ris ix cn = ((k : Nat) : Int) := by
  obtain ⟨q, hq, rfl⟩ := h.on hk
  rw [lss_ris h hq] at h2
  -- no earlier place has this count
  have h3 : sIx (fun j => S.testBit (ris j)) ris ix q = -1 := sIx_0 q (fun p hp hZ hc => by
    have h4 : fb_ct (fun j => S.testBit (ris j)) (p + 1) ≤ fb_ct (fun j => S.testBit (ris j)) q := ct_mono (by omega)
    have h5 : fb_ct (fun j => S.testBit (ris j)) (p + 1) = fb_ct (fun j => S.testBit (ris j)) p + 1 := by rw [fb_ct_succ, hZ]; rfl
    omega)
  exact sIx_hit h3 h1 h2 cn hq
theorem sof_none {vals : Nat → Int} {ris : Nat → Nat} {cn S : Nat} {ix : Int} (h : PalOK vals ris cn) (h1 : ∀ k, k < cn → sZ vals cn S ix k = false) : sIx (fun j => S.testBit (ris j)) ris ix cn = -1 := sIx_0 cn (fun q hq hZ hc => by
    have h2 := h1 (ris q) (h.2.2.2.1 q hq)
    unfold sZ at h2
    rw [lss_ris h hq] at h2
    have hZ2 : S.testBit (ris q) = true := hZ
    rw [hZ2, decide_eq_true hc] at h2
    exact Bool.noConfusion h2)
theorem fst_all {Z : Nat → Bool} : ∀ {n : Nat}, fst Z n = n → ∀ k, k < n → Z k = false
  | 0, _, k, hk => absurd hk (Nat.not_lt_zero k)
  | n + 1, h, k, hk => by
    have h9 := fst_le Z n
    have h0 : fst Z n = n := by
      by_cases e : fst Z n < n
      · have : fst Z (n + 1) = fst Z n := if_pos e
        omega
      · omega
    have h1 : Z n = false := by
      cases e : Z n with
      | false => rfl
      | true =>
        have := fst_hit h0 e (n + 1) (Nat.lt_succ_self n)
        omega
    by_cases e : k = n
    · subst e; exact h1
    · exact fst_all h0 k (by omega)
/-- an index with a side, by the palette's order -/
theorem sIx_some {vals : Nat → Int} {ris : Nat → Nat} {cn S : Nat} {ix : Int} (h : PalOK vals ris cn) (hS : S < 2 ^ cn) (h0 : 0 ≤ ix) (h1 : ix < ((cnt S : Nat) : Int)) : ¬ sIx (fun j => S.testBit (ris j)) ris ix cn = -1 := by
  have hc : fb_ct (fun j => S.testBit (ris j)) cn = cnt S := by rw [h.2.1 (fun j => S.testBit j)]; exact cnt_cn hS (by have := h.1; omega)
  have key : ∀ n, ix < ((fb_ct (fun j => S.testBit (ris j)) n : Nat) : Int) → ∃ q, q < n ∧ S.testBit (ris q) = true ∧ ((fb_ct (fun j => S.testBit (ris j)) q : Nat) : Int) = ix := by
    intro n
    induction n with
    | zero => intro h; exact absurd h (by show ¬ ix < ((0 : Nat) : Int); omega)
    | succ n ih =>
      intro h
      by_cases e : ix < ((fb_ct (fun j => S.testBit (ris j)) n : Nat) : Int)
      · obtain ⟨q, a, b, c⟩ := ih e
        exact ⟨q, Nat.lt_succ_of_lt a, b, c⟩
      · rw [fb_ct_succ] at h
        cases e2 : S.testBit (ris n) with
        | false =>
          rw [e2] at h
          exact absurd h e
        | true =>
          rw [e2] at h
          have h' : ix < ((fb_ct (fun j => S.testBit (ris j)) n + 1 : Nat) : Int) := h
          exact ⟨n, Nat.lt_succ_self n, e2, by omega⟩
  obtain ⟨q, a, b, c⟩ := key cn (by rw [hc]; exact h1)
  have h3 : sIx (fun j => S.testBit (ris j)) ris ix q = -1 := sIx_0 q (fun p hp hZ hc => by
    have h4 : fb_ct (fun j => S.testBit (ris j)) (p + 1) ≤ fb_ct (fun j => S.testBit (ris j)) q := ct_mono (by omega)
    have h5 : fb_ct (fun j => S.testBit (ris j)) (p + 1) = fb_ct (fun j => S.testBit (ris j)) p + 1 := by rw [fb_ct_succ, hZ]; rfl
    omega)
  rw [sIx_hit h3 b c cn a]
  omega
theorem sIx_out {vals : Nat → Int} {ris : Nat → Nat} {cn S : Nat} {ix : Int} (h : PalOK vals ris cn) (hS : S < 2 ^ cn) (h1 : ¬ (0 ≤ ix ∧ ix < ((cnt S : Nat) : Int))) : sIx (fun j => S.testBit (ris j)) ris ix cn = -1 := by
  have hc : fb_ct (fun j => S.testBit (ris j)) cn = cnt S := by rw [h.2.1 (fun j => S.testBit j)]; exact cnt_cn hS (by have := h.1; omega)
  refine sIx_0 cn (fun q hq hZ hx => h1 ?_)
  have h4 : fb_ct (fun j => S.testBit (ris j)) (q + 1) ≤ fb_ct (fun j => S.testBit (ris j)) cn := ct_mono (by omega)
  have h5 : fb_ct (fun j => S.testBit (ris j)) (q + 1) = fb_ct (fun j => S.testBit (ris j)) q + 1 := by rw [fb_ct_succ, hZ]; rfl
  omega
/-- a set with one number -/
theorem cnt_one {S n : Nat} (hS : S < 2 ^ n) (hn : n ≤ 128) (h0 : 0 < S) (h1 : ¬ 1 < cnt S) : ∃ k, k < n ∧ S = 2 ^ k := by
  obtain ⟨k, hk⟩ := Nat.exists_testBit_of_ne_zero (Nat.ne_of_gt h0)
  have hkn : k < n := Nat.lt_of_not_le (fun h => by rw [tb_lt hS h] at hk; exact Bool.noConfusion hk)
  refine ⟨k, hkn, Nat.eq_of_testBit_eq fun i => ?_⟩
  rw [Nat.testBit_two_pow]
  by_cases e : k = i
  · subst e; rw [hk, decide_eq_true rfl]
  · rw [decide_eq_false e]
    cases e2 : S.testBit i with
    | false => rfl
    | true =>
      exfalso
      have hin : i < n := Nat.lt_of_not_le (fun h => by rw [tb_lt hS h] at e2; exact Bool.noConfusion e2)
      have hc := cnt_cn hS hn
      have h2 : ∀ {a b : Nat}, a < b → b < n → S.testBit a = true → S.testBit b = true → 2 ≤ fb_ct (fun j => S.testBit j) n := by
        intro a b hab hbn ha hb
        have q1 := ct_pos (p := fun j => S.testBit j) hab ha
        have q2 : fb_ct (fun j => S.testBit j) (b + 1) = fb_ct (fun j => S.testBit j) b + 1 := by rw [fb_ct_succ, hb]; rfl
        have q3 : fb_ct (fun j => S.testBit j) (b + 1) ≤ fb_ct (fun j => S.testBit j) n := ct_mono (by omega)
        omega
      rcases Nat.lt_or_gt_of_ne e with q | q
      · have := h2 q hin hk e2; omega
      · have := h2 q hkn e2 hk; omega
/-- the side of a set of one number, and its value -/
theorem sIx_pow {vals : Nat → Int} {ris : Nat → Nat} {cn k : Nat} (h : PalOK vals ris cn) (hk : k < cn) : sIx (fun j => (2 ^ k).testBit (ris j)) ris 0 cn = ((k : Nat) : Int) := by
  refine sof_hit h hk (Nat.testBit_two_pow_self) ?_
  unfold lss
  have : fb_ct (fun j => (2 ^ k).testBit j && decide (vals j < vals k)) cn = fb_ct (fun _ => false) cn := fb_ct_cong fun j _ => by
    show ((2 ^ k).testBit j && decide (vals j < vals k)) = false
    rw [Nat.testBit_two_pow]
    by_cases e : k = j
    · subst e; rw [decide_eq_false (show ¬ vals k < vals k by omega), Bool.and_false]
    · rw [decide_eq_false e, Bool.false_and]
  rw [this]
  have z := ct_zero (p := fun _ => false) (a := 0) cn (fun _ _ _ => rfl)
  rw [Nat.zero_add] at z
  rw [z]
  rfl
theorem val_0 {vals : Nat → Int} {ris : Nat → Nat} {cn k : Nat} (h : PalOK vals ris cn) (hk : k < cn) : vals k = -1000 ↔ k = 0 := by
  constructor
  · intro e
    by_cases h0 : k = 0
    · exact h0
    · have := h.2.2.2.2.2.1 k (by omega) hk
      omega
  · intro e; rw [e]; exact h.2.2.2.2.1
theorem val_inj {vals : Nat → Int} {ris : Nat → Nat} {cn a b : Nat} (h : PalOK vals ris cn) (ha : a < cn) (hb : b < cn) (e : vals a = vals b) : a = b := by
  obtain ⟨p, hp, rfl⟩ := h.on ha
  obtain ⟨q, hq, rfl⟩ := h.on hb
  rcases Nat.lt_trichotomy p q with z | z | z
  · have := h.2.2.1 p q z hq; omega
  · rw [z]
  · have := h.2.2.1 q p z hp; omega
