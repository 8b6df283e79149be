theorem r0_row (i : Nat) : rowL (updZ (fun _ => 0) 0 (-1000)) 1 (fun _ => 0) (fun _ => 0) (fun _ => 0) (updN (fun _ => 0) (0) (0)) (fun _ => 0) (fun _ => 0) (fun _ => 0) (fun _ => 0) (updN (fun _ => 0) (0) (2 ^ 0)) (updZ (fun _ => 0) (0) (-1)) (updZ (fun _ => 0) (0) (-1)) (wrT (updZ (fun _ => 0) 0 (-1000)) 1 (fun _ => 0) (fun _ => 0) (fun _ => 0) (updN (fun _ => 0) (0) (0)) (fun _ => 0) (fun _ => 0) (fun _ => 0) (fun _ => 0) (updN (fun _ => 0) (0) (2 ^ 0)) (updZ (fun _ => 0) (0) (-1)) (updZ (fun _ => 0) (0) (-1)) (fun _ => 0) 0) 0 i = 1 := by
  unfold rowL
  rw [updN_s, if_neg (by decide), if_neg (by decide), if_neg (by decide)]
theorem r0_T {i : Nat} (hi : i < 12) : (wrT (updZ (fun _ => 0) 0 (-1000)) 1 (fun _ => 0) (fun _ => 0) (fun _ => 0) (updN (fun _ => 0) (0) (0)) (fun _ => 0) (fun _ => 0) (fun _ => 0) (fun _ => 0) (updN (fun _ => 0) (0) (2 ^ 0)) (updZ (fun _ => 0) (0) (-1)) (updZ (fun _ => 0) (0) (-1)) (fun _ => 0) 0) (12 * 0 + i) = 1 := by
  rw [wrT_row lok_b (fun _ _ => ⟨by decide, by decide⟩) hi]
  exact r0_row i
theorem tg0_bd (k : Nat) : -1 ≤ tg0 10 k ∧ tg0 10 k < 100 := by
  unfold tg0
  split <;> omega
theorem f0_bd (k : Nat) : -1 ≤ (updZ (fun _ => 0) (0) (-1)) k ∧ (updZ (fun _ => 0) (0) (-1)) k < 100 := by
  unfold updZ
  split
  · omega
  · show (-1 : Int) ≤ 0 ∧ (0 : Int) < 100; omega
theorem rel_0 : Rel (fun _ => 0) (tg0 10) (updZ (fun _ => 0) (0) (-1)) (updZ (fun _ => 0) (0) (-1)) (updZ (fun _ => 0) 0 (-1000)) (fun _ => 0) (fun _ => 0) (updN (fun _ => 0) (0) (0)) (fun _ => 0) (fun _ => 0) (fun _ => 0) (fun _ => 0) (updN (fun _ => 0) (0) (2 ^ 0)) (fun _ => 0) (fun _ => 0) (fun _ => 0) (wrT (updZ (fun _ => 0) 0 (-1000)) 1 (fun _ => 0) (fun _ => 0) (fun _ => 0) (updN (fun _ => 0) (0) (0)) (fun _ => 0) (fun _ => 0) (fun _ => 0) (fun _ => 0) (updN (fun _ => 0) (0) (2 ^ 0)) (updZ (fun _ => 0) (0) (-1)) (updZ (fun _ => 0) (0) (-1)) (fun _ => 0) 0) (fun _ => 0) (fun _ => 0) 0 1 (0 + 1) 1 0 := by
  refine ⟨⟨by decide, by decide, by decide, by decide, by decide, by decide, by decide, by decide, fun k => Nat.zero_lt_one, tg0_bd, f0_bd, f0_bd, fun k hk => ?_, fun k hk => ?_, fun k => ?_, fun _ => Nat.two_pow_pos 101, fun j hj => ?_, ⟨⟨by decide, by decide⟩, fun P => rfl, fun p q h1 h2 => absurd h2 (by omega), fun k hk => Nat.zero_lt_one, rfl, fun k h1 h2 => absurd h2 (by omega), v_0, fun k => by show 0 < 100; decide⟩, qb_0, fun k hk => absurd hk (Nat.not_lt_zero k), fun c hc i hi => absurd hi (Nat.not_lt_zero i), fun k => by show (0 : Int) ≤ 0 ∧ (0 : Int) < 65536; omega⟩, ⟨fun c hc i hi => ?_, fun r hr i h1 h2 => ?_, fun j hj => ?_, fun j hj hd => ?_, fun j hj i hi => ?_, wrT128 T128_0 lok_b⟩, T128_0, fun r hr i hi => absurd hi (Nat.not_lt_zero i), fun _ _ _ _ _ => rfl⟩
  · obtain rfl : k = 0 := by omega
    decide
  · obtain rfl : k = 0 := by omega
    decide
  · unfold updN
    split
    · decide
    · exact Nat.two_pow_pos 101
  · obtain rfl : j = 0 := by omega
    rw [updN_s]
    refine ⟨by decide, by decide, fun k hk => ?_⟩
    rw [Nat.testBit_two_pow] at hk
    have := of_decide_eq_true hk
    omega
  · obtain rfl : c = 0 := by omega
    rw [r0_T hi]
    decide
  · obtain rfl : r = 0 := by omega
    exact r0_T h2
  · obtain rfl : j = 0 := by omega
    exact lok_b
  · obtain rfl : j = 0 := by omega
    rw [updN_s] at hd
    exact absurd hd (by decide)
  · obtain rfl : j = 0 := by omega
    rw [r0_T hi]
    exact (r0_row i).symm
