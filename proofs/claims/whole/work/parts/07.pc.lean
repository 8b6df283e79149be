/-! Long.bitCount counts the bits -/
def rep (b : Nat) : Nat → Nat
  | 0 => 0
  | k + 1 => 256 * rep b k + b
theorem and_256 (A B r s : Nat) (hr : r < 256) (hs : s < 256) : (256 * A + r) &&& (256 * B + s) = 256 * (A &&& B) + (r &&& s) := by
  have h1 : ((256 * A + r) &&& (256 * B + s)) / 2 ^ 8 = A &&& B := by
    rw [Nat.and_div_two_pow]
    congr 1 <;> omega
  have h2 : ((256 * A + r) &&& (256 * B + s)) % 2 ^ 8 = r &&& s := by
    rw [Nat.and_mod_two_pow]
    congr 1 <;> omega
  omega
def st1 (m : Nat → Nat → Nat) (k n : Nat) : Nat := n - ((n / 2) &&& m 85 k)
def st2 (m : Nat → Nat → Nat) (k n : Nat) : Nat := (n &&& m 51 k) + ((n / 4) &&& m 51 k)
def st3 (m : Nat → Nat → Nat) (k n : Nat) : Nat := (n + n / 16) &&& m 15 k
def by1 (d : Nat) : Nat := d - ((d / 2) &&& 85)
def by2 (d : Nat) : Nat := (d &&& 51) + ((d / 4) &&& 51)
def by3 (d : Nat) : Nat := (d + d / 16) &&& 15
theorem k1 : ∀ e : Fin 2, ∀ d : Fin 256, (128 * e.val + d.val / 2) &&& 85 = (d.val / 2) &&& 85 := by decide +kernel
theorem k2 : ∀ e : Fin 4, ∀ d : Fin 256, (64 * e.val + d.val / 4) &&& 51 = (d.val / 4) &&& 51 := by decide +kernel
theorem k3 : ∀ e : Fin 7, ∀ d : Fin 103, (d.val + 16 * e.val + d.val / 16) &&& 15 = (d.val + d.val / 16) &&& 15 ∧ d.val + 16 * e.val + d.val / 16 < 256 := by decide +kernel
theorem k4 : ∀ d : Fin 256, by1 d.val < 256 := by decide +kernel
theorem k5 : ∀ d : Fin 256, by2 d.val < 103 := by decide +kernel
theorem k6 : ∀ d : Fin 256, by3 (by2 (by1 d.val)) = fb_ct (fun k => d.val.testBit k) 8 := by decide +kernel
theorem s1_step (k a d : Nat) (hd : d < 256) : st1 rep (k + 1) (256 * a + d) = 256 * st1 rep k a + by1 d := by
  have e1 : (256 * a + d) / 2 = 256 * (a / 2) + (128 * (a % 2) + d / 2) := by omega
  have e2 := k1 ⟨a % 2, by omega⟩ ⟨d, hd⟩
  dsimp only at e2
  have h1 : (a / 2) &&& rep 85 k ≤ a / 2 := Nat.and_le_left
  have h2 : (d / 2) &&& 85 ≤ d / 2 := Nat.and_le_left
  unfold st1 by1
  rw [e1, show rep 85 (k + 1) = 256 * rep 85 k + 85 from rfl, and_256 _ _ _ _ (by omega) (by omega), e2]
  omega
theorem s2_step (k a d : Nat) (hd : d < 256) : st2 rep (k + 1) (256 * a + d) = 256 * st2 rep k a + by2 d := by
  have e1 : (256 * a + d) / 4 = 256 * (a / 4) + (64 * (a % 4) + d / 4) := by omega
  have e2 := k2 ⟨a % 4, by omega⟩ ⟨d, hd⟩
  dsimp only at e2
  unfold st2 by2
  rw [e1, show rep 51 (k + 1) = 256 * rep 51 k + 51 from rfl, and_256 _ _ _ _ hd (by omega), and_256 _ _ _ _ (by omega) (by omega), e2]
  omega
theorem rep_51 (k : Nat) : rep 51 k % 16 = 0 ∨ rep 51 k % 16 = 3 := by
  cases k with
  | zero => exact Or.inl rfl
  | succ k => exact Or.inr (by show (256 * rep 51 k + 51) % 16 = 3; omega)
theorem nib : ∀ x : Fin 16, (x.val &&& 0) ≤ 3 ∧ (x.val &&& 3) ≤ 3 := by decide +kernel
theorem and_51 (x k : Nat) : (x &&& rep 51 k) % 16 ≤ 3 := by
  have h : (x &&& rep 51 k) % 2 ^ 4 = x % 2 ^ 4 &&& rep 51 k % 2 ^ 4 := Nat.and_mod_two_pow
  rw [show (2 : Nat) ^ 4 = 16 from rfl] at h
  rw [h]
  have h2 := nib ⟨x % 16, by omega⟩
  rcases rep_51 k with e | e
  · rw [e]; exact h2.1
  · rw [e]; exact h2.2
theorem st2_nib (k n : Nat) : st2 rep k n % 16 ≤ 6 := by
  unfold st2
  have h1 := and_51 n k
  have h2 := and_51 (n / 4) k
  omega
theorem s3_step (k a d : Nat) (ha : a % 16 ≤ 6) (hd : d < 103) : st3 rep (k + 1) (256 * a + d) = 256 * st3 rep k a + by3 d := by
  have e1 : (256 * a + d) + (256 * a + d) / 16 = 256 * (a + a / 16) + (d + 16 * (a % 16) + d / 16) := by omega
  obtain ⟨e2, e3⟩ := k3 ⟨a % 16, by omega⟩ ⟨d, hd⟩
  dsimp only at e2 e3
  unfold st3 by3
  rw [e1, show rep 15 (k + 1) = 256 * rep 15 k + 15 from rfl, and_256 _ _ _ _ e3 (by omega), e2]
def stF (k n : Nat) : Nat := st3 rep k (st2 rep k (st1 rep k n))
theorem sF_step (k a d : Nat) (hd : d < 256) : stF (k + 1) (256 * a + d) = 256 * stF k a + fb_ct (fun j => d.testBit j) 8 := by
  unfold stF
  have h4 := k4 ⟨d, hd⟩
  have h5 := k5 ⟨by1 d, h4⟩
  rw [s1_step k a d hd, s2_step k _ _ h4, s3_step k _ _ (st2_nib k _) h5]
  exact congrArg (256 * stF k a + ·) (k6 ⟨d, hd⟩)
theorem ct_step (a d n : Nat) (hd : d < 256) : fb_ct (fun j => (256 * a + d).testBit j) (8 + n) = fb_ct (fun j => d.testBit j) 8 + fb_ct (fun j => a.testBit j) n := by
  rw [fb_ct_split]
  congr 1
  · refine fb_ct_cong fun k hk => ?_
    have h : (256 * a + d) % 2 ^ 8 = d := by omega
    rw [← h, Nat.testBit_mod_two_pow]
    simp [hk]
  · refine fb_ct_cong fun k hk => ?_
    have h : (256 * a + d) / 2 ^ 8 = a := by omega
    show (256 * a + d).testBit (8 + k) = a.testBit k
    rw [← h, Nat.testBit_div_two_pow, Nat.add_comm]
theorem stF_all (n : Nat) (hn : n < 2 ^ 64) : ∃ p0 p1 p2 p3 p4 p5 p6 p7 : Nat, p0 ≤ 8 ∧ p1 ≤ 8 ∧ p2 ≤ 8 ∧ p3 ≤ 8 ∧ p4 ≤ 8 ∧ p5 ≤ 8 ∧ p6 ≤ 8 ∧ p7 ≤ 8 ∧ stF 8 n = p0 + 256 * (p1 + 256 * (p2 + 256 * (p3 + 256 * (p4 + 256 * (p5 + 256 * (p6 + 256 * p7)))))) ∧ fb_ct (fun j => n.testBit j) 64 = p0 + p1 + p2 + p3 + p4 + p5 + p6 + p7 := by
  have step : ∀ k m : Nat, m < 256 ^ (k + 1) → ∃ (a : Nat) (q : Nat), a < 256 ^ k ∧ q ≤ 8 ∧ stF (k + 1) m = 256 * stF k a + q ∧ fb_ct (fun j => m.testBit j) (8 + 8 * k) = q + fb_ct (fun j => a.testBit j) (8 * k) := by
    intro k m hm
    have e : m = 256 * (m / 256) + m % 256 := by omega
    have hd : m % 256 < 256 := by omega
    refine ⟨m / 256, fb_ct (fun j => (m % 256).testBit j) 8, ?_, fb_ct_le _ 8, ?_, ?_⟩
    · rw [Nat.pow_succ] at hm
      omega
    · have h := sF_step k (m / 256) (m % 256) hd
      rw [← e] at h
      exact h
    · have h := ct_step (m / 256) (m % 256) (8 * k) hd
      rw [← e] at h
      exact h
  obtain ⟨a0, p0, h0, b0, e0, f0⟩ := step 7 n hn
  obtain ⟨a1, p1, h1, b1, e1, f1⟩ := step 6 a0 h0
  obtain ⟨a2, p2, h2, b2, e2, f2⟩ := step 5 a1 h1
  obtain ⟨a3, p3, h3, b3, e3, f3⟩ := step 4 a2 h2
  obtain ⟨a4, p4, h4, b4, e4, f4⟩ := step 3 a3 h3
  obtain ⟨a5, p5, h5, b5, e5, f5⟩ := step 2 a4 h4
  obtain ⟨a6, p6, h6, b6, e6, f6⟩ := step 1 a5 h5
  obtain ⟨a7, p7, h7, b7, e7, f7⟩ := step 0 a6 h6
  have e8 : stF 0 a7 = 0 := by
    unfold stF st3
    rw [show rep 15 0 = 0 from rfl, Nat.and_zero]
  have f8 : fb_ct (fun j => a7.testBit j) (8 * 0) = 0 := rfl
  refine ⟨p0, p1, p2, p3, p4, p5, p6, p7, b0, b1, b2, b3, b4, b5, b6, b7, ?_, ?_⟩
  · rw [e0, e1, e2, e3, e4, e5, e6, e7, e8]
    omega
  · simp only [Nat.reduceMul, Nat.reduceAdd] at f0 f1 f2 f3 f4 f5 f6 f7 f8 ⊢
    omega
theorem fold_all {x p0 p1 p2 p3 p4 p5 p6 p7 : Nat} (b0 : p0 ≤ 8) (b1 : p1 ≤ 8) (b2 : p2 ≤ 8) (b3 : p3 ≤ 8) (b4 : p4 ≤ 8) (b5 : p5 ≤ 8) (b6 : p6 ≤ 8) (b7 : p7 ≤ 8) (h : x = p0 + 256 * (p1 + 256 * (p2 + 256 * (p3 + 256 * (p4 + 256 * (p5 + 256 * (p6 + 256 * p7))))))) :
    (((x + x / 256) + (x + x / 256) / 65536) + ((x + x / 256) + (x + x / 256) / 65536) / 4294967296) % 128 = p0 + p1 + p2 + p3 + p4 + p5 + p6 + p7 ∧ x < 2 ^ 60 := by
  have h1 : x + x / 256 = (p0 + p1) + 256 * ((p1 + p2) + 256 * ((p2 + p3) + 256 * ((p3 + p4) + 256 * ((p4 + p5) + 256 * ((p5 + p6) + 256 * ((p6 + p7) + 256 * p7)))))) := by omega
  have h2 : (x + x / 256) / 65536 = (p2 + p3) + 256 * ((p3 + p4) + 256 * ((p4 + p5) + 256 * ((p5 + p6) + 256 * ((p6 + p7) + 256 * p7)))) := by omega
  generalize x + x / 256 = y at h1 h2 ⊢
  have h3 : y + y / 65536 = (p0 + p1 + p2 + p3) + 256 * ((p1 + p2 + p3 + p4) + 256 * ((p2 + p3 + p4 + p5) + 256 * ((p3 + p4 + p5 + p6) + 256 * ((p4 + p5 + p6 + p7) + 256 * ((p5 + p6 + p7) + 256 * ((p6 + p7) + 256 * p7)))))) := by omega
  generalize y + y / 65536 = z at h3 ⊢
  have h4 : z / 4294967296 = (p4 + p5 + p6 + p7) + 256 * ((p5 + p6 + p7) + 256 * ((p6 + p7) + 256 * p7)) := by omega
  constructor
  · omega
  · omega
theorem bc_end {n3 n4 n5 : Nat} (h4 : n4 = n3 + n3 / 2 ^ 8) (h5 : n5 = n4 + n4 / 2 ^ 16) : nI (n5 + n5 / 2 ^ 32) &&& iI 127 = nI (((n3 + n3 / 256) + (n3 + n3 / 256) / 65536 + ((n3 + n3 / 256) + (n3 + n3 / 256) / 65536) / 4294967296) % 128) := by
  rw [pk_and _ 7 (by decide)]
  have h6 : (nI (n5 + n5 / 2 ^ 32)).toBitVec.toNat = (n5 + n5 / 2 ^ 32) % 2 ^ 32 := BitVec.toNat_ofNat _ _
  rw [h6, h5, h4]
  congr 1
  omega
