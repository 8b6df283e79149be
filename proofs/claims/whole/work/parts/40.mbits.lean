/-! sets as the reference has them: the low 50 numbers in one long, the others in another -/
def loM (S : Nat) : Int64 := lN (S % 2 ^ 50)
def hiM (S : Nat) : Int64 := lN (S / 2 ^ 50)
abbrev xml (T : Nat → Nat) : Nat → Int64 := fun k => loM (T k)
abbrev xmh (T : Nat → Nat) : Nat → Int64 := fun k => hiM (T k)
theorem xml_upd (T : Nat → Nat) (i X : Nat) : vp_updL (xml T) i (loM X) = xml (updN T i X) := by
  funext k
  show (if k = i then loM X else loM (T k)) = loM (if k = i then X else T k)
  by_cases h : k = i
  · rw [if_pos h, if_pos h]
  · rw [if_neg h, if_neg h]
theorem xmh_upd (T : Nat → Nat) (i X : Nat) : vp_updL (xmh T) i (hiM X) = xmh (updN T i X) := by
  funext k
  show (if k = i then hiM X else hiM (T k)) = hiM (if k = i then X else T k)
  by_cases h : k = i
  · rw [if_pos h, if_pos h]
  · rw [if_neg h, if_neg h]
theorem loM_or (a b : Nat) : loM a ||| loM b = loM (a ||| b) := by
  unfold loM
  rw [lN_or, Nat.or_mod_two_pow]
theorem hiM_or (a b : Nat) : hiM a ||| hiM b = hiM (a ||| b) := by
  unfold hiM
  rw [lN_or, Nat.or_div_two_pow]
theorem m_eq {a b : Nat} (ha : a < 2 ^ 101) (hb : b < 2 ^ 101) (h1 : loM a = loM b) (h2 : hiM a = hiM b) : a = b := by
  have e1 := lN_mod h1
  have e2 := lN_mod h2
  omega
theorem m_sar {n k : Nat} (hn : n < 2 ^ 63) (hk : k < 64) : lN n >>> ((iI (k : Int)).toInt64 &&& 63) = lN (n / 2 ^ k) := by
  rw [iI_nI, wb_c k hk]
  apply wb_inj
  show (lN n).toBitVec.sshiftRight ((lN k).toBitVec.smod 64).toNat = _
  rw [wb_tb, wb_tb, wb_tb, wb_sm k hk]
  have e : (BitVec.ofNat 64 n).msb = false := by
    rw [BitVec.msb_eq_decide, BitVec.toNat_ofNat, Nat.mod_eq_of_lt (by omega)]
    exact decide_eq_false (fun h => absurd hn (Nat.not_lt.mpr h))
  rw [BitVec.sshiftRight_eq_of_msb_false e]
  apply BitVec.eq_of_toNat_eq
  rw [BitVec.toNat_ushiftRight, BitVec.toNat_ofNat, BitVec.toNat_ofNat, BitVec.toNat_ofNat, Nat.shiftRight_eq_div_pow, Nat.mod_eq_of_lt (show n < 2 ^ 64 by omega), Nat.mod_eq_of_lt (show k < 2 ^ 64 by omega), Nat.mod_eq_of_lt]
  exact Nat.lt_of_le_of_lt (Nat.div_le_self n (2 ^ k)) (by omega)
theorem m_sarL {S n : Nat} (h : n < 50) : loM S >>> ((iI (n : Int)).toInt64 &&& 63) = lN (S % 2 ^ 50 / 2 ^ n) := m_sar (Nat.lt_trans (Nat.mod_lt S (by decide)) (by decide)) (by omega)
theorem m_sarH {S n : Nat} (hS : S < 2 ^ 101) (h : n < 64) : hiM S >>> ((iI (n : Int)).toInt64 &&& 63) = lN (S / 2 ^ 50 / 2 ^ n) := m_sar (by omega) h
theorem m_and1 {x : Nat} : lN (x &&& 1) = lN 1 ↔ x % 2 = 1 := by
  rw [Nat.and_one_is_mod]
  constructor
  · intro h
    have := lN_mod h
    omega
  · intro h
    rw [h]
theorem m_tb {S n : Nat} : S.testBit n = decide (S / 2 ^ n % 2 = 1) := Nat.testBit_eq_decide_div_mod_eq
theorem mhas_Lt {S n : Nat} (hn : n < 50) (h : lN ((S % 2 ^ 50 / 2 ^ n) &&& 1) = lN 1) : S.testBit n = true := by
  have h1 : (S % 2 ^ 50).testBit n = true := by rw [m_tb]; exact decide_eq_true (m_and1.mp h)
  rw [Nat.testBit_mod_two_pow] at h1
  simpa [hn] using h1
theorem mhas_Lf {S n : Nat} (hn : n < 50) (h : ¬ lN ((S % 2 ^ 50 / 2 ^ n) &&& 1) = lN 1) : S.testBit n = false := by
  have h1 : (S % 2 ^ 50).testBit n = false := by rw [m_tb]; exact decide_eq_false (fun x => h (m_and1.mpr x))
  rw [Nat.testBit_mod_two_pow] at h1
  simpa [hn] using h1
theorem mhas_Ht {S n : Nat} (hn : 50 ≤ n) (h : lN ((S / 2 ^ 50 / 2 ^ (n - 50)) &&& 1) = lN 1) : S.testBit n = true := by
  have h1 : (S / 2 ^ 50).testBit (n - 50) = true := by rw [m_tb]; exact decide_eq_true (m_and1.mp h)
  rw [Nat.testBit_div_two_pow, show n - 50 + 50 = n by omega] at h1
  exact h1
theorem mhas_Hf {S n : Nat} (hn : 50 ≤ n) (h : ¬ lN ((S / 2 ^ 50 / 2 ^ (n - 50)) &&& 1) = lN 1) : S.testBit n = false := by
  have h1 : (S / 2 ^ 50).testBit (n - 50) = false := by rw [m_tb]; exact decide_eq_false (fun x => h (m_and1.mpr x))
  rw [Nat.testBit_div_two_pow, show n - 50 + 50 = n by omega] at h1
  exact h1
theorem mpow_Li : ∀ n : Nat, n < 50 → lN (2 ^ n) = loM (2 ^ n) := by decide +kernel
theorem mpow_Lo : ∀ n : Nat, n < 101 → 50 ≤ n → lN 0 = loM (2 ^ n) := by decide +kernel
theorem mpow_Ho : ∀ n : Nat, n < 50 → lN 0 = hiM (2 ^ n) := by decide +kernel
theorem mpow_Hi : ∀ n : Nat, n < 101 → 50 ≤ n → lN (2 ^ (n - 50)) = hiM (2 ^ n) := by decide +kernel
theorem loM_bit {n : Nat} (h : n < 50) : (1 : Int64) <<< ((iI (n : Int)).toInt64 &&& 63) = loM (2 ^ n) := by
  rw [lowBit_in (by omega)]
  exact mpow_Li n h
theorem hiM_bit {n : Nat} (h : 50 ≤ n) (h2 : n < 101) : (1 : Int64) <<< ((iI ((n - 50 : Nat) : Int)).toInt64 &&& 63) = hiM (2 ^ n) := by
  rw [lowBit_in (by omega)]
  exact mpow_Hi n h2 h
def T101 (T : Nat → Nat) : Prop := ∀ k, T k < 2 ^ 101
theorem or101 {a b : Nat} (ha : a < 2 ^ 101) (hb : b < 2 ^ 101) : a ||| b < 2 ^ 101 := Nat.or_lt_two_pow ha hb
theorem pow101 {n : Nat} (h : n < 101) : 2 ^ n < 2 ^ 101 := Nat.pow_lt_pow_right (by decide) h
section VM
variable {p : Program} {l : Launch} {e : Env} {R : Room} {s : State} {m : MethodId} {args : Array Value} {below : List Frame} {meth : Method} {c : Code} {g : vG} {A : Nat → Prop} {nL : Nat} {Q : State → Prop} {k n : Nat} {ws : va_W} {lv : List (Nat × Value)} {pc : Nat} {st : List Value} {cc : ByteArray} {Ts : List Cond} {own : String}
theorem v_lor_ml (C : Cx p s m args c g A cc nL Ts own) {x y : Nat} (hd : decode cc pc = .ok (.lor, 1)) (kk : Vx p l e R s m args below meth c g A nL Q k n ws lv (pc + 1) (.long (loM (x ||| y)) :: st)) : Vx p l e R s m args below meth c g A nL Q k n ws lv pc (.long (loM y) :: .long (loM x) :: st) := v_lor C hd (by rw [loM_or]; exact kk)
theorem v_lor_mh (C : Cx p s m args c g A cc nL Ts own) {x y : Nat} (hd : decode cc pc = .ok (.lor, 1)) (kk : Vx p l e R s m args below meth c g A nL Q k n ws lv (pc + 1) (.long (hiM (x ||| y)) :: st)) : Vx p l e R s m args below meth c g A nL Q k n ws lv pc (.long (hiM y) :: .long (hiM x) :: st) := v_lor C hd (by rw [hiM_or]; exact kk)
end VM
