/-! Long.bitCount counts the bits -/
def rep (b : Nat) : Nat → Nat
  | 0 => 0
  | k + 1 => 256 * rep b k + b
theorem and_256 (A B r s : Nat) (hr : r < 256) (hs : s < 256) : (256 * A + r) &&& (256 * B + s) = 256 * (A &&& B) + (r &&& s) := by
  have h1 : ((256 * A + r) &&& (256 * B + s)) / 2 ^ 8 = A &&& B := by
    rw [Nat.and_div_two_pow]
    congr 1 <;> omega
  have h2 : ((256 * A + r) &&& (256 * B + s)) % 2 ^ 8 = r &&& s := by
    rw [Nat.and_mod_two_pow]
    congr 1 <;> omega
  omega
def st1 (m : Nat → Nat → Nat) (k n : Nat) : Nat := n - ((n / 2) &&& m 85 k)
def st2 (m : Nat → Nat → Nat) (k n : Nat) : Nat := (n &&& m 51 k) + ((n / 4) &&& m 51 k)
def st3 (m : Nat → Nat → Nat) (k n : Nat) : Nat := (n + n / 16) &&& m 15 k
def by1 (d : Nat) : Nat := d - ((d / 2) &&& 85)
def by2 (d : Nat) : Nat := (d &&& 51) + ((d / 4) &&& 51)
def by3 (d : Nat) : Nat := (d + d / 16) &&& 15
theorem k1 : ∀ e : Fin 2, ∀ d : Fin 256, (128 * e.val + d.val / 2) &&& 85 = (d.val / 2) &&& 85 := by decide +kernel
theorem k2 : ∀ e : Fin 4, ∀ d : Fin 256, (64 * e.val + d.val / 4) &&& 51 = (d.val / 4) &&& 51 := by decide +kernel
theorem k3 : ∀ e : Fin 7, ∀ d : Fin 103, (d.val + 16 * e.val + d.val / 16) &&& 15 = (d.val + d.val / 16) &&& 15 ∧ d.val + 16 * e.val + d.val / 16 < 256 := by decide +kernel
theorem k4 : ∀ d : Fin 256, by1 d.val < 256 := by decide +kernel
theorem k5 : ∀ d : Fin 256, by2 d.val < 103 := by decide +kernel
theorem k6 : ∀ d : Fin 256, by3 (by2 (by1 d.val)) = fb_ct (fun k => d.val.testBit k) 8 := by decide +kernel
theorem s1_step (k a d : Nat) (hd : d < 256) : st1 rep (k + 1) (256 * a + d) = 256 * st1 rep k a + by1 d := by
  have e1 : (256 * a + d) / 2 = 256 * (a / 2) + (128 * (a % 2) + d / 2) := by omega
  have e2 := k1 ⟨a % 2, by omega⟩ ⟨d, hd⟩
  dsimp only at e2
  have h1 : (a / 2) &&& rep 85 k ≤ a / 2 := Nat.and_le_left
  have h2 : (d / 2) &&& 85 ≤ d / 2 := Nat.and_le_left
  unfold st1 by1
  rw [e1, show rep 85 (k + 1) = 256 * rep 85 k + 85 from rfl, and_256 _ _ _ _ (by omega) (by omega), e2]
  omega
theorem s2_step (k a d : Nat) (hd : d < 256) : st2 rep (k + 1) (256 * a + d) = 256 * st2 rep k a + by2 d := by
  have e1 : (256 * a + d) / 4 = 256 * (a / 4) + (64 * (a % 4) + d / 4) := by omega
  have e2 := k2 ⟨a % 4, by omega⟩ ⟨d, hd⟩
  dsimp only at e2
  unfold st2 by2
  rw [e1, show rep 51 (k + 1) = 256 * rep 51 k + 51 from rfl, and_256 _ _ _ _ hd (by omega), and_256 _ _ _ _ (by omega) (by omega), e2]
  omega
theorem rep_51 (k : Nat) : rep 51 k % 16 = 0 ∨ rep 51 k % 16 = 3 := by
  cases k with
  | zero => exact Or.inl rfl
  | succ k => exact Or.inr (by show (256 * rep 51 k + 51) % 16 = 3; omega)
theorem nib : ∀ x : Fin 16, (x.val &&& 0) ≤ 3 ∧ (x.val &&& 3) ≤ 3 := by decide +kernel
theorem and_51 (x k : Nat) : (x &&& rep 51 k) % 16 ≤ 3 := by
  have h : (x &&& rep 51 k) % 2 ^ 4 = x % 2 ^ 4 &&& rep 51 k % 2 ^ 4 := Nat.and_mod_two_pow
  rw [show (2 : Nat) ^ 4 = 16 from rfl] at h
  rw [h]
  have h2 := nib ⟨x % 16, by omega⟩
  rcases rep_51 k with e | e
  · rw [e]; exact h2.1
  · rw [e]; exact h2.2
theorem st2_nib (k n : Nat) : st2 rep k n % 16 ≤ 6 := by
  unfold st2
  have h1 := and_51 n k
  have h2 := and_51 (n / 4) k
  omega
theorem s3_step (k a d : Nat) (ha : a % 16 ≤ 6) (hd : d < 103) : st3 rep (k + 1) (256 * a + d) = 256 * st3 rep k a + by3 d := by
  have e1 : (256 * a + d) + (256 * a + d) / 16 = 256 * (a + a / 16) + (d + 16 * (a % 16) + d / 16) := by omega
  obtain ⟨e2, e3⟩ := k3 ⟨a % 16, by omega⟩ ⟨d, hd⟩
  dsimp only at e2 e3
  unfold st3 by3
  rw [e1, show rep 15 (k + 1) = 256 * rep 15 k + 15 from rfl, and_256 _ _ _ _ e3 (by omega), e2]
def stF (k n : Nat) : Nat := st3 rep k (st2 rep k (st1 rep k n))
theorem sF_step (k a d : Nat) (hd : d < 256) : stF (k + 1) (256 * a + d) = 256 * stF k a + fb_ct (fun j => d.testBit j) 8 := by
  unfold stF
  have h4 := k4 ⟨d, hd⟩
  have h5 := k5 ⟨by1 d, h4⟩
  rw [s1_step k a d hd, s2_step k _ _ h4, s3_step k _ _ (st2_nib k _) h5]
  exact congrArg (256 * stF k a + ·) (k6 ⟨d, hd⟩)
theorem ct_step (a d n : Nat) (hd : d < 256) : fb_ct (fun j => (256 * a + d).testBit j) (8 + n) = fb_ct (fun j => d.testBit j) 8 + fb_ct (fun j => a.testBit j) n := by
  rw [fb_ct_split]
  congr 1
  · refine fb_ct_cong fun k hk => ?_
    have h : (256 * a + d) % 2 ^ 8 = d := by omega
    have h2 := Nat.testBit_mod_two_pow (256 * a + d) 8 k
    rw [h] at h2
    rw [h2]
    simp [hk]
  · refine fb_ct_cong fun k hk => ?_
    have h : (256 * a + d) / 2 ^ 8 = a := by omega
    have h2 : ((256 * a + d) / 2 ^ 8).testBit k = (256 * a + d).testBit (8 + k) := by
      rw [Nat.testBit_div_two_pow, Nat.add_comm 8 k]
    rw [h] at h2
    exact h2.symm
theorem ct8 (k m : Nat) : fb_ct (fun j => m.testBit j) (8 * (k + 1)) = fb_ct (fun j => (m % 256).testBit j) 8 + fb_ct (fun j => (m / 256).testBit j) (8 * k) := by
  have e : m = 256 * (m / 256) + m % 256 := by omega
  have h := ct_step (m / 256) (m % 256) (8 * k) (by omega)
  rw [← e] at h
  rw [show 8 * (k + 1) = 8 + 8 * k by omega]
  exact h
theorem sF8 (k m : Nat) : stF (k + 1) m = 256 * stF k (m / 256) + fb_ct (fun j => (m % 256).testBit j) 8 := by
  have e : m = 256 * (m / 256) + m % 256 := by omega
  have h := sF_step k (m / 256) (m % 256) (by omega)
  rw [← e] at h
  exact h
/-- k digits, each at most 8, with the image of n and its count of bits -/
def dig (k n x w : Nat) : Prop := stF k n = x ∧ fb_ct (fun j => n.testBit j) (8 * k) = w
theorem dig_0 (n : Nat) : dig 0 n 0 0 := ⟨by unfold stF st3; rw [show rep 15 0 = 0 from rfl, Nat.and_zero], rfl⟩
theorem dig_s {k n x w : Nat} (h : dig k (n / 256) x w) : ∃ q : Nat, q ≤ 8 ∧ dig (k + 1) n (q + 256 * x) (q + w) := by
  refine ⟨fb_ct (fun j => (n % 256).testBit j) 8, fb_ct_le _ 8, ?_, ?_⟩
  · rw [sF8, h.1, Nat.add_comm]
  · rw [ct8, h.2]
theorem stF_all (n : Nat) : ∃ p0 p1 p2 p3 p4 p5 p6 p7 : Nat, p0 ≤ 8 ∧ p1 ≤ 8 ∧ p2 ≤ 8 ∧ p3 ≤ 8 ∧ p4 ≤ 8 ∧ p5 ≤ 8 ∧ p6 ≤ 8 ∧ p7 ≤ 8 ∧ dig 8 n (p0 + 256 * (p1 + 256 * (p2 + 256 * (p3 + 256 * (p4 + 256 * (p5 + 256 * (p6 + 256 * (p7 + 256 * 0)))))))) (p0 + (p1 + (p2 + (p3 + (p4 + (p5 + (p6 + (p7 + 0)))))))) := by
  obtain ⟨p7, b7, h7⟩ := dig_s (dig_0 (n / 256 / 256 / 256 / 256 / 256 / 256 / 256 / 256))
  obtain ⟨p6, b6, h6⟩ := dig_s h7
  obtain ⟨p5, b5, h5⟩ := dig_s h6
  obtain ⟨p4, b4, h4⟩ := dig_s h5
  obtain ⟨p3, b3, h3⟩ := dig_s h4
  obtain ⟨p2, b2, h2⟩ := dig_s h3
  obtain ⟨p1, b1, h1⟩ := dig_s h2
  obtain ⟨p0, b0, h0⟩ := dig_s h1
  exact ⟨p0, p1, p2, p3, p4, p5, p6, p7, b0, b1, b2, b3, b4, b5, b6, b7, h0⟩
theorem fold_all {x p0 p1 p2 p3 p4 p5 p6 p7 : Nat} (b0 : p0 ≤ 8) (b1 : p1 ≤ 8) (b2 : p2 ≤ 8) (b3 : p3 ≤ 8) (b4 : p4 ≤ 8) (b5 : p5 ≤ 8) (b6 : p6 ≤ 8) (b7 : p7 ≤ 8) (h : x = p0 + 256 * (p1 + 256 * (p2 + 256 * (p3 + 256 * (p4 + 256 * (p5 + 256 * (p6 + 256 * (p7 + 256 * 0)))))))) :
    (((x + x / 256) + (x + x / 256) / 65536) + ((x + x / 256) + (x + x / 256) / 65536) / 4294967296) % 128 = p0 + (p1 + (p2 + (p3 + (p4 + (p5 + (p6 + (p7 + 0))))))) ∧ x < 2 ^ 60 := by
  obtain ⟨y7, e7⟩ : ∃ y, y = p7 + 256 * 0 := ⟨_, rfl⟩
  rw [← e7] at h
  obtain ⟨y6, e6⟩ : ∃ y, y = p6 + 256 * y7 := ⟨_, rfl⟩
  rw [← e6] at h
  obtain ⟨y5, e5⟩ : ∃ y, y = p5 + 256 * y6 := ⟨_, rfl⟩
  rw [← e5] at h
  obtain ⟨y4, e4⟩ : ∃ y, y = p4 + 256 * y5 := ⟨_, rfl⟩
  rw [← e4] at h
  obtain ⟨y3, e3⟩ : ∃ y, y = p3 + 256 * y4 := ⟨_, rfl⟩
  rw [← e3] at h
  obtain ⟨y2, e2⟩ : ∃ y, y = p2 + 256 * y3 := ⟨_, rfl⟩
  rw [← e2] at h
  obtain ⟨y1, e1⟩ : ∃ y, y = p1 + 256 * y2 := ⟨_, rfl⟩
  rw [← e1] at h
  have d1 : x / 256 = y1 := by clear e1 e2 e3 e4 e5 e6 e7; omega
  rw [d1]
  have z0 : x + y1 = (p0 + p1) + 256 * (y1 + y2) := by clear e2 e3 e4 e5 e6 e7; omega
  have z1 : y1 + y2 = (p1 + p2) + 256 * (y2 + y3) := by clear e3 e4 e5 e6 e7; omega
  have z2 : y2 + y3 = (p2 + p3) + 256 * (y3 + y4) := by clear e1 e4 e5 e6 e7; omega
  have z3 : y3 + y4 = (p3 + p4) + 256 * (y4 + y5) := by clear e1 e2 e5 e6 e7; omega
  have z4 : y4 + y5 = (p4 + p5) + 256 * (y5 + y6) := by clear e1 e2 e3 e6 e7; omega
  have z5 : y5 + y6 = (p5 + p6) + 256 * (y6 + y7) := by clear e1 e2 e3 e4 e7; omega
  have z6 : y6 + y7 = (p6 + p7) + 256 * y7 := by clear e1 e2 e3 e4 e5; omega
  have hx : x < 2 ^ 60 := by clear z0 z1 z2 z3 z4 z5 z6 d1; omega
  refine ⟨?_, hx⟩
  clear hx h e1 e2 e3 e4 e5 e6 d1
  generalize x + y1 = u0 at *
  generalize y1 + y2 = u1 at *
  generalize y2 + y3 = u2 at *
  generalize y3 + y4 = u3 at *
  generalize y4 + y5 = u4 at *
  generalize y5 + y6 = u5 at *
  generalize y6 + y7 = u6 at *
  have d2 : u0 / 65536 = u2 := by clear z2 z3 z4 z5 z6 e7; omega
  rw [d2]
  have w0 : u0 + u2 = (p0 + p1 + p2 + p3) + 256 * (u1 + u3) := by clear z1 z3 z4 z5 z6 e7; omega
  have w1 : u1 + u3 = (p1 + p2 + p3 + p4) + 256 * (u2 + u4) := by clear z0 z2 z4 z5 z6 e7 w0 d2; omega
  have w2 : u2 + u4 = (p2 + p3 + p4 + p5) + 256 * (u3 + u5) := by clear z0 z1 z3 z5 z6 e7 w0 w1 d2; omega
  have w3 : u3 + u5 = (p3 + p4 + p5 + p6) + 256 * (u4 + u6) := by clear z0 z1 z2 z4 z6 e7 w0 w1 w2 d2; omega
  have w4 : u4 + u6 = (p4 + p5 + p6 + p7) + 256 * (u5 + y7) := by clear z0 z1 z2 z3 z5 e7 w0 w1 w2 w3 d2; omega
  clear z0 z1 z2 z3 z4 z5 z6 e7 d2
  generalize u0 + u2 = v0 at *
  generalize u1 + u3 = v1 at *
  generalize u2 + u4 = v2 at *
  generalize u3 + u5 = v3 at *
  generalize u4 + u6 = v4 at *
  generalize u5 + y7 = v5 at *
  have d3 : v0 / 4294967296 = v4 := by clear w4; omega
  rw [d3]
  clear d3 w1 w2 w3
  omega
theorem bc_end {n3 n4 n5 : Nat} (h4 : n4 = n3 + n3 / 2 ^ 8) (h5 : n5 = n4 + n4 / 2 ^ 16) : nI (n5 + n5 / 2 ^ 32) &&& iI 127 = nI (((n3 + n3 / 256) + (n3 + n3 / 256) / 65536 + ((n3 + n3 / 256) + (n3 + n3 / 256) / 65536) / 4294967296) % 128) := by
  rw [pk_and _ 7 (by decide)]
  have h6 : (nI (n5 + n5 / 2 ^ 32)).toBitVec.toNat = (n5 + n5 / 2 ^ 32) % 2 ^ 32 := BitVec.toNat_ofNat _ _
  rw [h6, h5, h4]
  congr 1
  omega
