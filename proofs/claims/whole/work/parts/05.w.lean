/-! sets of numbers below 128 as two longs: the low half is lN S, the high half hN S -/
def hN (n : Nat) : Int64 := lN (n >>> 64)
abbrev xl (T : Nat → Nat) : Nat → Int64 := fun k => lN (T k)
abbrev xh (T : Nat → Nat) : Nat → Int64 := fun k => hN (T k)
theorem lN_or (a b : Nat) : lN a ||| lN b = lN (a ||| b) := by
  apply wb_inj
  rw [Int64.toBitVec_or, wb_tb, wb_tb, wb_tb]
  apply BitVec.eq_of_getLsbD_eq
  intro i hi
  simp [hi, Nat.testBit_or]
theorem lN_and (a b : Nat) : lN a &&& lN b = lN (a &&& b) := by
  apply wb_inj
  rw [Int64.toBitVec_and, wb_tb, wb_tb, wb_tb]
  apply BitVec.eq_of_getLsbD_eq
  intro i hi
  simp [hi, Nat.testBit_and]
theorem hN_or (a b : Nat) : hN a ||| hN b = hN (a ||| b) := by
  unfold hN
  rw [lN_or, ← Nat.shiftRight_or_distrib]
theorem hN_and (a b : Nat) : hN a &&& hN b = hN (a &&& b) := by
  unfold hN
  rw [lN_and, ← Nat.shiftRight_and_distrib]
theorem lN_mod {a b : Nat} (h : lN a = lN b) : a % 2 ^ 64 = b % 2 ^ 64 := by
  have h1 := congrArg (fun x : Int64 => x.toBitVec.toNat) h
  rw [wb_tb, wb_tb, BitVec.toNat_ofNat, BitVec.toNat_ofNat] at h1
  exact h1
theorem two_eq {a b : Nat} (ha : a < 2 ^ 128) (hb : b < 2 ^ 128) (h1 : lN a = lN b) (h2 : hN a = hN b) : a = b := by
  have e1 := lN_mod h1
  have e2 := lN_mod h2
  rw [Nat.shiftRight_eq_div_pow, Nat.shiftRight_eq_div_pow] at e2
  omega
theorem xl_upd (T : Nat → Nat) (i X : Nat) : vp_updL (xl T) i (lN X) = xl (updN T i X) := by
  funext k
  show (if k = i then lN X else lN (T k)) = lN (if k = i then X else T k)
  by_cases h : k = i
  · rw [if_pos h, if_pos h]
  · rw [if_neg h, if_neg h]
theorem xh_upd (T : Nat → Nat) (i X : Nat) : vp_updL (xh T) i (hN X) = xh (updN T i X) := by
  funext k
  show (if k = i then hN X else hN (T k)) = hN (if k = i then X else T k)
  by_cases h : k = i
  · rw [if_pos h, if_pos h]
  · rw [if_neg h, if_neg h]
theorem bZ_nar (b : Bool) : narrow .boolean (.int (iI (bZ b))) = .int (iI (bZ b)) := by cases b <;> rfl
/-- arrays of counts -/
abbrev cIn (g : vG) (a n : Nat) (f : Nat → Nat) : Nat × va_E := cI g a n (fun k => ((f k : Nat) : Int))
theorem updZ_cast (f : Nat → Nat) (i x : Nat) : updZ (fun k => ((f k : Nat) : Int)) i ((x : Nat) : Int) = fun k => ((updN f i x k : Nat) : Int) := by
  funext k
  unfold updZ updN
  by_cases h : k = i
  · rw [if_pos h, if_pos h]
  · rw [if_neg h, if_neg h]
/-! the lowest bits as longs -/
theorem lowBit_in {n : Nat} (h : n < 64) : (1 : Int64) <<< ((iI (n : Int)).toInt64 &&& 63) = lN (2 ^ n) := by
  rw [iI_nI]
  have h1 := wb_shl 1 h
  rw [Nat.one_mul] at h1
  exact h1
theorem lowBit_out : ∀ n : Nat, n < 128 → 64 ≤ n → lN 0 = lN (2 ^ n) := by decide +kernel
theorem highBit_out : ∀ n : Nat, n < 64 → lN 0 = hN (2 ^ n) := by decide +kernel
theorem highBit_in : ∀ n : Nat, n < 128 → 64 ≤ n → lN (2 ^ (n - 64)) = hN (2 ^ n) := by decide +kernel
theorem hasBit_1 : ∀ n : Nat, n < 128 → ¬ (lN (2 ^ n) ||| hN (2 ^ n)) = lN 0 := by decide +kernel
theorem and_pow_t {S n : Nat} (h : S.testBit n = true) : S &&& 2 ^ n = 2 ^ n := by
  apply Nat.eq_of_testBit_eq
  intro i
  rw [Nat.testBit_and, Nat.testBit_two_pow]
  by_cases e : n = i
  · subst e
    simp [h]
  · simp [e]
theorem and_pow_f {S n : Nat} (h : S.testBit n = false) : S &&& 2 ^ n = 0 := by
  apply Nat.eq_of_testBit_eq
  intro i
  rw [Nat.testBit_and, Nat.testBit_two_pow, Nat.zero_testBit]
  by_cases e : n = i
  · subst e
    simp [h]
  · simp [e]
theorem has_f {S n : Nat} (h : lN (S &&& 2 ^ n) ||| hN (S &&& 2 ^ n) = lN 0) (hn : n < 128) : S.testBit n = false := by
  cases e : S.testBit n with
  | false => rfl
  | true =>
    rw [and_pow_t e] at h
    exact absurd h (hasBit_1 n hn)
theorem has_t {S n : Nat} (h : ¬ lN (S &&& 2 ^ n) ||| hN (S &&& 2 ^ n) = lN 0) : S.testBit n = true := by
  cases e : S.testBit n with
  | true => rfl
  | false =>
    rw [and_pow_f e] at h
    exact absurd rfl h
section VW
variable {p : Program} {l : Launch} {e : Env} {R : Room} {s : State} {m : MethodId} {args : Array Value} {below : List Frame} {meth : Method} {c : Code} {g : vG} {A : Nat → Prop} {nL : Nat} {Q : State → Prop} {k n : Nat} {ws : va_W} {lv : List (Nat × Value)} {pc : Nat} {st : List Value} {cc : ByteArray} {Ts : List Cond} {own : String}
theorem v_lor_lo (C : Cx p s m args c g A cc nL Ts own) {x y : Nat} (hd : decode cc pc = .ok (.lor, 1)) (kk : Vx p l e R s m args below meth c g A nL Q k n ws lv (pc + 1) (.long (lN (x ||| y)) :: st)) : Vx p l e R s m args below meth c g A nL Q k n ws lv pc (.long (lN y) :: .long (lN x) :: st) := v_lor C hd (by rw [lN_or]; exact kk)
theorem v_lor_hi (C : Cx p s m args c g A cc nL Ts own) {x y : Nat} (hd : decode cc pc = .ok (.lor, 1)) (kk : Vx p l e R s m args below meth c g A nL Q k n ws lv (pc + 1) (.long (hN (x ||| y)) :: st)) : Vx p l e R s m args below meth c g A nL Q k n ws lv pc (.long (hN y) :: .long (hN x) :: st) := v_lor C hd (by rw [hN_or]; exact kk)
theorem v_land_lo (C : Cx p s m args c g A cc nL Ts own) {x y : Nat} (hd : decode cc pc = .ok (.land, 1)) (kk : Vx p l e R s m args below meth c g A nL Q k n ws lv (pc + 1) (.long (lN (x &&& y)) :: st)) : Vx p l e R s m args below meth c g A nL Q k n ws lv pc (.long (lN y) :: .long (lN x) :: st) := v_land C hd (by rw [lN_and]; exact kk)
theorem v_land_hi (C : Cx p s m args c g A cc nL Ts own) {x y : Nat} (hd : decode cc pc = .ok (.land, 1)) (kk : Vx p l e R s m args below meth c g A nL Q k n ws lv (pc + 1) (.long (hN (x &&& y)) :: st)) : Vx p l e R s m args below meth c g A nL Q k n ws lv pc (.long (hN y) :: .long (hN x) :: st) := v_land C hd (by rw [hN_and]; exact kk)
theorem v_ws {ws' : va_W} (h : ws = ws') (kk : Vx p l e R s m args below meth c g A nL Q k n ws' lv pc st) : Vx p l e R s m args below meth c g A nL Q k n ws lv pc st := h ▸ kk
theorem v_st {st' : List Value} (h : st = st') (kk : Vx p l e R s m args below meth c g A nL Q k n ws lv pc st') : Vx p l e R s m args below meth c g A nL Q k n ws lv pc st := h ▸ kk
theorem v_lp1 {X : Type} (W : X → va_W) (L : X → List (Nat × Value)) (μ : X → Nat) (J : X → Prop) (h : ∀ x, J x → (∀ y, J y → μ y < μ x → Vx p l e R s m args below meth c g A nL Q k n (W y) (L y) pc st) → Vx p l e R s m args below meth c g A nL Q k n (W x) (L x) pc st) (x : X) (hx : J x) : Vx p l e R s m args below meth c g A nL Q k n (W x) (L x) pc st := by
  have key : ∀ d x, μ x < d → J x → Vx p l e R s m args below meth c g A nL Q k n (W x) (L x) pc st := by
    intro d
    induction d with
    | zero => exact fun x hd => absurd hd (Nat.not_lt_zero _)
    | succ d ih => exact fun x hd hj => h x hj fun y hy hlt => ih y (by omega) hy
  exact key _ x (Nat.lt_succ_self _) hx
theorem v_ialdn (C : Cx p s m args c g A cc nL Ts own) (q0 : Nat) {a N : Nat} {f : Nat → Nat} {z : Int} (i : Nat) (ha : ws[q0]? = some (cIn g a N f)) (hz : z = (i : Int)) (hi : i < N) (hN : N < 2147483648) (hd : decode cc pc = .ok (.iaload, 1)) (kk : Vx p l e R s m args below meth c g A nL Q k n ws lv (pc + 1) (.int (iI ((f i : Nat) : Int)) :: st)) : Vx p l e R s m args below meth c g A nL Q k n ws lv pc (.int (iI z) :: .ref a :: st) := v_iald C q0 i ha hz hi hN hd kk
theorem v_iastn (C : Cx p s m args c g A cc nL Ts own) (q0 : Nat) {a N : Nat} {f : Nat → Nat} {z : Int} {x : Nat} (i : Nat) (ws' : va_W) (ha : ws[q0]? = some (cIn g a N f)) (hz : z = (i : Int)) (hi : i < N) (hN : N < 2147483648) (hd : decode cc pc = .ok (.iastore, 1)) (hw : ws.set q0 (cIn g a N (updN f i x)) = ws') (kk : Vx p l e R s m args below meth c g A nL Q k n ws' lv (pc + 1) st) : Vx p l e R s m args below meth c g A nL Q k n ws lv pc (.int (iI ((x : Nat) : Int)) :: .int (iI z) :: .ref a :: st) := v_iast C q0 i ws' ha hz hi hN hd (by rw [updZ_cast]; exact hw) kk
end VW
/-! rows of twelve -/
/-- the row r of T with f in its first n places -/
def rowP (T : Nat → Nat) (r n : Nat) (f : Nat → Nat) : Nat → Nat := fun k => if 12 * r ≤ k ∧ k < 12 * r + n then f (k - 12 * r) else T k
theorem rowP_0 (T : Nat → Nat) (r : Nat) (f : Nat → Nat) : rowP T r 0 f = T := by
  funext k
  exact if_neg (by omega)
theorem rowP_s (T : Nat → Nat) (r n : Nat) (f : Nat → Nat) : updN (rowP T r n f) (12 * r + n) (f n) = rowP T r (n + 1) f := by
  funext k
  unfold updN rowP
  by_cases h : k = 12 * r + n
  · subst h
    rw [if_pos rfl, if_pos ⟨by omega, by omega⟩]
    congr 1
    omega
  · rw [if_neg h]
    by_cases h2 : 12 * r ≤ k ∧ k < 12 * r + n
    · rw [if_pos h2, if_pos ⟨h2.1, by omega⟩]
    · rw [if_neg h2, if_neg (by omega)]
theorem rowP_in {T : Nat → Nat} {r n i : Nat} {f : Nat → Nat} (h : i < n) : rowP T r n f (12 * r + i) = f i := by
  unfold rowP
  rw [if_pos ⟨by omega, by omega⟩]
  congr 1
  omega
theorem rowP_out {T : Nat → Nat} {r n k : Nat} {f : Nat → Nat} (h : k < 12 * r ∨ 12 * r + n ≤ k) : rowP T r n f k = T k := if_neg (by omega)
theorem rowP_else {T : Nat → Nat} {r n r2 i : Nat} {f : Nat → Nat} (hn : n ≤ 12) (hi : i < 12) (h : r2 ≠ r) : rowP T r n f (12 * r2 + i) = T (12 * r2 + i) := rowP_out (by omega)
theorem bz_t {b : Bool} (h : b = true) : iI 1 = iI (bZ b) := by rw [h]; rfl
theorem bz_f {b : Bool} (h : b = false) : iI 0 = iI (bZ b) := by rw [h]; rfl
theorem bz_dt {P : Prop} [Decidable P] (h : P) : iI 1 = iI (bZ (decide P)) := bz_t (decide_eq_true h)
theorem bz_df {P : Prop} [Decidable P] (h : ¬ P) : iI 0 = iI (bZ (decide P)) := bz_f (decide_eq_false h)
theorem highBit_sh {n : Nat} (h : 64 ≤ n) (h2 : n < 128) : (1 : Int64) <<< ((iI ((n : Int) - 64)).toInt64 &&& 63) = hN (2 ^ n) := by
  rw [show (n : Int) - 64 = ((n - 64 : Nat) : Int) by omega, lowBit_in (by omega)]
  exact highBit_in n h2 h
section VX2
variable {p : Program} {l : Launch} {e : Env} {R : Room} {s : State} {m : MethodId} {args : Array Value} {below : List Frame} {meth : Method} {c : Code} {g : vG} {A : Nat → Prop} {nL : Nat} {Q : State → Prop} {k n : Nat} {ws : va_W} {lv : List (Nat × Value)} {pc : Nat} {st : List Value} {cc : ByteArray} {Ts : List Cond} {own : String}
theorem v_ldc2 (C : Cx p s m args c g A cc nL Ts own) {index : Nat} {v v' : Int64} (hc : Cond.constantLong own index v ∈ Ts) (hv : v = v') (hd : decode cc pc = .ok (.ldc2_w index, 3)) (kk : Vx p l e R s m args below meth c g A nL Q k n ws lv (pc + 3) (.long v' :: st)) : Vx p l e R s m args below meth c g A nL Q k n ws lv pc st := fun H locs ls hP hD hS hL => lv_ldc2 C.1 C.2.1 C.2.2.2.1 (C.2.2.2.2.1 _ hc) hd (hv ▸ kk H locs ls hP hD hS hL)
theorem v_ladd_lo (C : Cx p s m args c g A cc nL Ts own) {x y : Nat} (hd : decode cc pc = .ok (.ladd, 1)) (kk : Vx p l e R s m args below meth c g A nL Q k n ws lv (pc + 1) (.long (lN (x + y)) :: st)) : Vx p l e R s m args below meth c g A nL Q k n ws lv pc (.long (lN y) :: .long (lN x) :: st) := v_ladd C hd (by rw [lN_add]; exact kk)
theorem v_lsub_lo (C : Cx p s m args c g A cc nL Ts own) {x y : Nat} (h : y ≤ x) (hd : decode cc pc = .ok (.lsub, 1)) (kk : Vx p l e R s m args below meth c g A nL Q k n ws lv (pc + 1) (.long (lN (x - y)) :: st)) : Vx p l e R s m args below meth c g A nL Q k n ws lv pc (.long (lN y) :: .long (lN x) :: st) := v_lsub C hd (by rw [lN_sub h]; exact kk)
end VX2
theorem sh_u {n k : Nat} (hn : n < 2 ^ 64) (hk : k < 64) : ((lN n).toUInt64 >>> ((iI (k : Int)).toInt64.toUInt64 &&& Int64.toUInt64 63)).toInt64 = lN (n / 2 ^ k) := by
  rw [iI_nI]
  exact wb_shr hn hk
section VX3
variable {p : Program} {l : Launch} {e : Env} {R : Room} {s : State} {m : MethodId} {args : Array Value} {below : List Frame} {meth : Method} {c : Code} {g : vG} {A : Nat → Prop} {nL : Nat} {Q : State → Prop} {k n : Nat} {ws : va_W} {lv : List (Nat × Value)} {pc : Nat} {st : List Value} {cc : ByteArray} {Ts : List Cond} {own : String}
theorem v_copyl (C : Cx p s m args c g A cc nL Ts own) {index : Nat} (h1 : Cond.methodLink own index arraycopyName ∈ Ts) (h2 : Cond.native arraycopyName ∈ Ts) (h3 : Cond.static arraycopyName ∈ Ts) (h4 : Cond.initialized "java/lang/System" ∈ Ts) (q0 : Nat) {a N : Nat} {f f' : Nat → Int64} {z1 z2 z3 : Int} (i1 i2 i3 : Nat) (ws' : va_W) (ha : ws[q0]? = some (cL g a N f)) (e1 : z1 = (i1 : Int)) (e2 : z2 = (i2 : Int)) (e3 : z3 = (i3 : Int)) (b1 : i1 + i3 ≤ N) (b2 : i2 + i3 ≤ N) (bN : N < 2147483648) (hfr : 1 ≤ R.frames) (hlo : (st.map fun v => v.category).sum + (nativeFrameWords "java/lang/System" "arraycopy" 5 + 11) ≤ R.locals) (hd : decode cc pc = .ok (.invokestatic index, 3)) (hf : va_cpy f f i1 i2 i3 = f') (hw : ws.set q0 (cL g a N f') = ws') (kk : Vx p l e R s m args below meth c g A nL Q k n ws' lv (pc + 3) st) : Vx p l e R s m args below meth c g A nL Q k n ws lv pc (.int (iI z3) :: .int (iI z2) :: .ref a :: .int (iI z1) :: .ref a :: st) := fun H locs ls hP hD hS hL => by
  have hts := C.2.2.2.2.1
  have n0 : ∀ {z : Int} {i : Nat}, z = (i : Int) → i ≤ N → ¬ iI z < 0 := fun {z} {i} hz hi => by
    rw [show (0 : Int32) = iI 0 from rfl, iI_lt ⟨by omega, by omega⟩ b31_0]
    omega
  refine va_copyl (D := g.1) C.1 C.2.1 (C.2.2.1.trans hL.1.symm) C.2.2.2.1 (hts _ h1) (hts _ h2) (hts _ h3) (hts _ h4) C.2.2.2.2.2.1.1 hP hD hS q0 q0 2 2 (ty := .long) ha ha rfl rfl rfl (n0 e1 (by omega)) (n0 e2 (by omega)) (n0 e3 (by omega)) ?_ ?_ (fun _ _ => rfl) hfr hlo hd (fun H1 locs1 hP1 hD1 hS1 => ?_)
  · rw [iI_cl e1 (by omega), iI_cl e3 (by omega)]
    exact b1
  · rw [iI_cl e2 (by omega), iI_cl e3 (by omega)]
    exact b2
  · rw [iI_cl e1 (by omega), iI_cl e2 (by omega), iI_cl e3 (by omega), hf] at hP1 hD1
    subst hw
    exact kk H1 locs1 ls hP1 hD1 hS1 hL
end VX3
theorem cpy_lo (T : Nat → Nat) (f r : Nat) : va_cpy (xl T) (xl T) (12 * f) (12 * r) 12 = xl (rowP T r 12 (fun i => T (12 * f + i))) := by
  funext k
  show (if 12 * r ≤ k ∧ k < 12 * r + 12 then lN (T (12 * f + (k - 12 * r))) else lN (T k)) = lN (if 12 * r ≤ k ∧ k < 12 * r + 12 then T (12 * f + (k - 12 * r)) else T k)
  by_cases h : 12 * r ≤ k ∧ k < 12 * r + 12
  · rw [if_pos h, if_pos h]
  · rw [if_neg h, if_neg h]
theorem cpy_hi (T : Nat → Nat) (f r : Nat) : va_cpy (xh T) (xh T) (12 * f) (12 * r) 12 = xh (rowP T r 12 (fun i => T (12 * f + i))) := by
  funext k
  show (if 12 * r ≤ k ∧ k < 12 * r + 12 then hN (T (12 * f + (k - 12 * r))) else hN (T k)) = hN (if 12 * r ≤ k ∧ k < 12 * r + 12 then T (12 * f + (k - 12 * r)) else T k)
  by_cases h : 12 * r ≤ k ∧ k < 12 * r + 12
  · rw [if_pos h, if_pos h]
  · rw [if_neg h, if_neg h]
theorem ct_f {p : Nat → Bool} {n : Nat} (h : p n = false) : fb_ct p n = fb_ct p (n + 1) := by rw [fb_ct_succ, h]; rfl
theorem ct_t {p : Nat → Bool} {n : Nat} (h : p n = true) : fb_ct p n + 1 = fb_ct p (n + 1) := by rw [fb_ct_succ, h]; rfl
theorem ct_fz {p : Nat → Bool} {n : Nat} (h : p n = false) : ((fb_ct p n : Nat) : Int) = ((fb_ct p (n + 1) : Nat) : Int) := by rw [ct_f h]
theorem ct_tz {p : Nat → Bool} {n : Nat} (h : p n = true) : ((fb_ct p n + 1 : Nat) : Int) = ((fb_ct p (n + 1) : Nat) : Int) := by rw [ct_t h]
theorem ct_fn {q : Nat → Bool} {n : Nat} (h : q n = true) : ((fb_ct (fun i => !q i) n : Nat) : Int) = ((fb_ct (fun i => !q i) (n + 1) : Nat) : Int) := ct_fz (by show (!q n) = false; rw [h]; rfl)
theorem ct_tn {q : Nat → Bool} {n : Nat} (h : q n = false) : ((fb_ct (fun i => !q i) n + 1 : Nat) : Int) = ((fb_ct (fun i => !q i) (n + 1) : Nat) : Int) := ct_tz (p := fun i => !q i) (by show (!q n) = true; rw [h]; rfl)
/-- every set at hand lies below 128 -/
def T128 (T : Nat → Nat) : Prop := ∀ k, T k < 2 ^ 128
theorem T128_upd {T : Nat → Nat} (h : T128 T) (i : Nat) {x : Nat} (hx : x < 2 ^ 128) : T128 (updN T i x) := fun k => by
  unfold updN
  by_cases e : k = i
  · rw [if_pos e]; exact hx
  · rw [if_neg e]; exact h k
theorem T128_row {T : Nat → Nat} (h : T128 T) (r n : Nat) {f : Nat → Nat} (hf : ∀ i, f i < 2 ^ 128) : T128 (rowP T r n f) := fun k => by
  unfold rowP
  by_cases e : 12 * r ≤ k ∧ k < 12 * r + n
  · rw [if_pos e]; exact hf _
  · rw [if_neg e]; exact h k
theorem or128 {a b : Nat} (ha : a < 2 ^ 128) (hb : b < 2 ^ 128) : a ||| b < 2 ^ 128 := Nat.or_lt_two_pow ha hb
section VX4
variable {p : Program} {l : Launch} {e : Env} {R : Room} {s : State} {m : MethodId} {args : Array Value} {below : List Frame} {meth : Method} {c : Code} {g : vG} {A : Nat → Prop} {nL : Nat} {Q : State → Prop} {k n : Nat} {ws : va_W} {lv : List (Nat × Value)} {pc : Nat} {st : List Value} {cc : ByteArray} {Ts : List Cond} {own : String}
theorem v_mmin (C : Cx p s m args c g A cc nL Ts own) {index : Nat} {x y : Nat} (h1 : Cond.methodLink own index Lib.Math.min.name ∈ Ts) (h2 : Cond.static Lib.Math.min.name ∈ Ts) (h3 : Cond.initialized "java/lang/Math" ∈ Ts) (h4 : Cond.code Lib.Math.min.name Lib.Math.min.code 2 (some .int) ∈ Ts) (hfr : 1 ≤ R.frames) (hlo : (st.map fun v => v.category).sum + 13 ≤ R.locals) (hk : k ≤ R.cells) (hn : n ≤ R.slots) (hx : x < 2147483648) (hy : y < 2147483648) (hd : decode cc pc = .ok (.invokestatic index, 3)) (kk : Vx p l e R s m args below meth c g A nL Q k n ws lv (pc + 3) (.int (iI ((min x y : Nat) : Int)) :: st)) : Vx p l e R s m args below meth c g A nL Q k n ws lv pc (.int (iI (y : Int)) :: .int (iI (x : Int)) :: st) := fun H locs ls hP hD hS hL => by
  have hts := C.2.2.2.2.1
  refine va_mmin C.1 C.2.1 (C.2.2.1.trans hL.1.symm) C.2.2.2.1 (hts _ h1) (hts _ h2) (hts _ h3) (hts _ h4) hfr hlo hk hn hd ?_
  have e : (if iI (y : Int) < iI (x : Int) then iI (y : Int) else iI (x : Int)) = iI ((min x y : Nat) : Int) := by
    by_cases h : y < x
    · rw [if_pos ((iI_lt ⟨by omega, by omega⟩ ⟨by omega, by omega⟩).mpr (by omega)), Nat.min_eq_right (by omega)]
    · rw [if_neg (fun z => h (by have := (iI_lt ⟨by omega, by omega⟩ ⟨by omega, by omega⟩).mp z; omega)), Nat.min_eq_left (by omega)]
  rw [e]
  exact kk H locs ls hP hD hS hL
theorem v_tsw (C : Cx p s m args c g A cc nL Ts own) {dflt lo hi : Int} {offs : Array Int} {len : Nat} {x : Int} (i : Nat) (off : Int) (tgt : Nat) (hd : decode cc pc = .ok (.tableswitch dflt lo hi offs, len)) (hb : b31 x) (hx : x = lo + (i : Int)) (h2 : ¬ hi < x) (ho : offs[i]? = some off) (ht : (pc : Int) + off = (tgt : Int)) (kk : Vx p l e R s m args below meth c g A nL Q k n ws lv tgt st) : Vx p l e R s m args below meth c g A nL Q k n ws lv pc (.int (iI x) :: st) := fun H locs ls hP hD hS hL => by
  have e := iI_toInt hb.1 hb.2
  refine lv_tableIn C.1 C.2.1 hd (by rw [e]; omega) (by rw [e]; exact h2) (off := off) ?_ ht (kk H locs ls hP hD hS hL)
  rw [e, show (x - lo).toNat = i by omega]
  exact ho
theorem v_tswOut (C : Cx p s m args c g A cc nL Ts own) {dflt lo hi : Int} {offs : Array Int} {len : Nat} {x : Int} (tgt : Nat) (hd : decode cc pc = .ok (.tableswitch dflt lo hi offs, len)) (hb : b31 x) (h : x < lo ∨ hi < x) (ht : (pc : Int) + dflt = (tgt : Int)) (kk : Vx p l e R s m args below meth c g A nL Q k n ws lv tgt st) : Vx p l e R s m args below meth c g A nL Q k n ws lv pc (.int (iI x) :: st) := fun H locs ls hP hD hS hL => by
  have e := iI_toInt hb.1 hb.2
  exact lv_tableOut C.1 C.2.1 hd (by rw [e]; exact h) ht (kk H locs ls hP hD hS hL)
end VX4
