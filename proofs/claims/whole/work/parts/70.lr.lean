/-! the law: what its frame knows, and the rules of its own -/
def Tl (s : State) (A : Nat → Prop) (sa : Nat → Nat) : Prop := x_N s ∧ x_S sa s ∧ x_Z A s s.heap ∧ x_NC s
def LCx (p : Program) (l : Launch) (s : State) (m : MethodId) (c : Code) (g : vG) (A : Nat → Prop) (sx : Nat → Nat) (b L : Nat) (xs : Nat → Int32) : Prop := Cx p s m #[Value.ref b] c g A code 9 wsL_law RL ∧ l.stackTraces = false ∧ Tl s A sx ∧ va_X b L xs s s.heap ∧ b < s.heap.size ∧ ¬ A b ∧ L ≤ 2048
section VC
variable {p : Program} {l : Launch} {e : Env} {R : Room} {s : State} {m : MethodId} {args : Array Value} {below : List Frame} {meth : Method} {c : Code} {g : vG} {A : Nat → Prop} {nL : Nat} {Q : State → Prop} {k n : Nat} {ws : va_W} {lv : List (Nat × Value)} {pc : Nat} {st : List Value} {cc : ByteArray} {Ts : List Cond} {own : String}
variable {S : Type} {w' : S → va_W} {mc ms : Nat}
theorem v_lwI (C : Cx p s m args c g A cc nL Ts own) {sa : Nat → Nat} (X : Tl s A sa) {hh : List (Nat × Nat × Nat × Nat)} {y : MethodName} {wy : List Cond} {rm : Room} {As : List Value} {wc : va_W} {post : Int32 → S → Prop} {bytes : ByteArray} {maxL N index : Nat} {ret : Option FieldType}  (hM : wI l g sa y wy rm As wc w' post mc ms) (cw : vx_CSW R s args own index y bytes maxL ret hh wy rm mc ms N) (segs : List va_W) (isC isR : List Nat) (rest : List Value) (segs2 : S → List va_W) (ws2 : S → va_W) (hok : (isC ++ isR).isPerm (List.range segs.length) = true) (hws : ws = segs.flatten) (hC : pick segs isC = wc) (hC2 : ∀ u, pick (segs2 u) isC = w' u) (hR2 : ∀ u, pick (segs2 u) isR = pick segs isR) (hL2 : ∀ u, (segs2 u).length = segs.length) (hw2 : ∀ u, (segs2 u).flatten = ws2 u) (hlen : As.length = N) (hst : st = As.reverse ++ rest) (hroom : (rest.map fun v => v.category).sum ≤ 8) (hd : decode cc pc = .ok (.invokestatic index, 3)) (hf : k + mc ≤ R.cells ∧ n + ms ≤ R.slots)
    (kk : ∀ (r : Int32) (u : S), post r u → Vx p l e R s m args below meth c g A nL Q (k + mc) (n + ms) (ws2 u) lv (pc + 3) (.int r :: rest)) : Vx p l e R s m args below meth c g A nL Q k n ws lv pc st := by
  intro H locs ls hP hD hS hL
  subst hst
  subst hws
  have hpm := pick_perm hok
  rw [hC] at hpm
  have hP0 := va_P_perm hpm hP
  have hD0 := va_D_perm hpm hD
  have hPc := va_P_left hP0
  have hDc := va_D_left hD0
  have hFc := va_free_left hD0 hS C.2.2.2.2.2.2
  refine va_calli (vx_runSW (As := As) (rest := rest) ⟨C.1, C.2.1, C.2.2.1, C.2.2.2.1, C.2.2.2.2.1⟩ (hM H.size) cw ⟨wPc_blind g sa _ wc H.size, fun U hU hW => ⟨rfl, by rw [hU], by rw [hU]; exact hPc, C.2.2.2.2.2.1.warm hW, hDc.weaken (fun _ _ _ _ => trivial), X.1.moved hW.alike, X.2.1.warm hW, by rw [hU]; exact (x_Z.moved hW.alike (X.2.2.1.kept hS.2.1)).narrow hFc, X.2.2.2.moved hW.alike⟩⟩ rfl hlen hL.1 rfl (lv_room hroom) hd hf) hS (fun q _ h => hFc q h) hFc (fun r u t H1 locs1 ht hvm hw hB hz1 hk1 hS1 => ?_)
  obtain ⟨hP1, hD1⟩ := hB
  rw [ht] at hP1
  obtain ⟨hP2, hD2⟩ := join_left hP0 hD0 hk1 hFc hP1 hD1
  have hpm2 := pick_perm (segs := segs2 u) (isC := isC) (isR := isR) (by rw [hL2 u]; exact hok)
  rw [hC2 u, hR2 u] at hpm2
  exact kk r u hw H1 locs1 ls (hw2 u ▸ va_P_perm hpm2.symm hP2) (hw2 u ▸ va_D_perm hpm2.symm hD2) hS1 hL
theorem v_wid {k2 n2 : Nat} (hk : k ≤ k2) (hn : n ≤ n2) (kk : Vx p l e R s m args below meth c g A nL Q k2 n2 ws lv pc st) : Vx p l e R s m args below meth c g A nL Q k n ws lv pc st := fun H locs ls hP hD hS hL => W.widen hk hn (kk H locs ls hP hD hS hL)
theorem v_dcmpR {x y : UInt64} {op : CmpOp} (C : Cx p s m args c g A cc nL Ts own) {r : Int32} (hr : Op.cmpValue (FP.dcmp x y) op = r) (hd : decode cc pc = .ok (.dcmp op, 1)) (kk : Vx p l e R s m args below meth c g A nL Q k n ws lv (pc + 1) (.int r :: st)) : Vx p l e R s m args below meth c g A nL Q k n ws lv pc (.double y :: .double x :: st) := v_dcmp C hd (by rw [hr]; exact kk)
end VC
section LR
variable {p : Program} {l : Launch} {e : Env} {R : Room} {s : State} {m : MethodId} {below : List Frame} {meth : Method} {c : Code} {g : vG} {A : Nat → Prop} {Q : State → Prop} {k n : Nat} {ws : va_W} {lv : List (Nat × Value)} {pc : Nat} {st : List Value} {sx : Nat → Nat} {b L : Nat} {xs : Nat → Int32}
theorem v_sld (K : LCx p l s m c g A sx b L xs) {z x : Int} (i : Nat) (hz : z = (i : Int)) (hi : i < L) (hx : (xs i).toInt = x) (hd : decode code pc = .ok (.iaload, 1)) (kk : Vx p l e R s m #[Value.ref b] below meth c g A 9 Q k n ws lv (pc + 1) (.int (iI x) :: st)) : Vx p l e R s m #[Value.ref b] below meth c g A 9 Q k n ws lv pc (.int (iI z) :: .ref b :: st) := fun H locs ls hP hD hS hL => by
  obtain ⟨C, -, -, hX, hbl, hbA, hL9⟩ := K
  refine va_sld C.1 C.2.1 hX hbl hbA hS (iI_in hz hi (by omega)) hd ?_
  rw [iI_cl hz (by omega), ← iI_self (xs i), hx]
  exact kk H locs ls hP hD hS hL
theorem v_slen (K : LCx p l s m c g A sx b L xs) (hd : decode code pc = .ok (.arraylength, 1)) (kk : Vx p l e R s m #[Value.ref b] below meth c g A 9 Q k n ws lv (pc + 1) (.int (iI ((L : Nat) : Int)) :: st)) : Vx p l e R s m #[Value.ref b] below meth c g A 9 Q k n ws lv pc (.ref b :: st) := fun H locs ls hP hD hS hL => by
  obtain ⟨C, -, -, hX, hbl, hbA, hL9⟩ := K
  refine va_slen C.1 C.2.1 hX hbl hbA hS hd ?_
  have h := kk H locs ls hP hD hS hL
  rw [iI_nI] at h
  exact h
end LR
theorem chr_bd (z : Int32) : 0 ≤ ((z.toUInt32 % 65536).toInt32).toInt ∧ ((z.toUInt32 % 65536).toInt32).toInt < 65536 := by
  have h : (z.toUInt32 % 65536).toNat < 65536 := by
    rw [UInt32.toNat_mod]
    exact Nat.mod_lt _ (by decide)
  have e : ((z.toUInt32 % 65536).toInt32).toInt = (((z.toUInt32 % 65536).toNat : Nat) : Int) := by
    show ((z.toUInt32 % 65536).toBitVec).toInt = _
    rw [BitVec.toInt_eq_toNat_of_lt (show 2 * (z.toUInt32 % 65536).toBitVec.toNat < 2 ^ 32 by
      have h2 : (z.toUInt32 % 65536).toBitVec.toNat = (z.toUInt32 % 65536).toNat := rfl
      omega)]
    rfl
  rw [e]
  omega
/-- what is owed behind a case -/
def LK (p : Program) (l : Launch) (e : Env) (s : State) (m : MethodId) (below : List Frame) (meth : Method) (c : Code) (g : vG) (A : Nat → Prop) (Q : State → Prop) (b k n j : Nat) (ma m1 m2 m3 la l1 l2 l3 l4 l5 l6 l7 l8 l9 tp tv tr qa q1 q2 q3 sa ta tlo thi ua ulo uhi mm b1 b2 b3 b4 b5 b6 b7 b8 b9 b10 b11 b12 b13 b14 b15 b16 b17 oa od : Nat) : Prop := ∀ (kinds tgs first second vals qs : Nat → Int) (hds deed item side picked qcnt An ris qi qo T Tr Tm Nw Kw : Nat → Nat) (ni bc cm cn qc cd : Nat) (fo : Nat → Int64) (fd : Nat → UInt64), Rel kinds tgs first second vals qs hds deed item side picked qcnt An ris qi qo T Tr Tm ni bc cm cn qc → Vx p l e room_1 s m #[Value.ref b] below meth c g A 9 Q k n (wMA g ma m1 m2 m3 la tp qa sa ta ua kinds ni hds bc tgs ++ (wLog g la l1 l2 l3 l4 l5 l6 l7 l8 l9 deed first second item side picked qcnt An An cm ++ (wPal g tp tv tr vals ris cn ++ (wQuo g qa q1 q2 q3 qi qo qs qc ++ (wScr g sa la qa ++ (wTab g ta tp tlo thi T T ++ (wTab g ua tp ulo uhi Tr Tr ++ (wMM g mm b1 b2 b3 b4 b5 b6 b7 b8 b9 b10 b11 b12 b13 b14 b15 b16 b17 kinds ni cm first second An An Tm Tm bc hds tgs qc qi qo qs cn vals Nw Nw Kw Kw cd ++ (rO g oa fo ++ (rD g od fd ++ ([]))))))))))) [(0, .ref (b)), (1, .ref (ma)), (2, .ref (mm)), (3, .ref (oa)), (4, .ref (od)), (5, .int (iI ((4 * j : Nat) : Int)))] 2209 []
