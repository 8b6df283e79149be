set_option maxHeartbeats 4000000 in
theorem law_loop {p : Program} {l : Launch} {e : Env} {s : State} {m : MethodId} {below : List Frame} {meth : Method} {c : Code} {g : vG} {A : Nat → Prop} {b : Nat} {sx : Nat → Nat} {L : Nat} {xs : Nat → Int32} {ma m1 m2 m3 la l1 l2 l3 l4 l5 l6 l7 l8 l9 tp tv tr qa q1 q2 q3 sa ta tlo thi ua ulo uhi mm b1 b2 b3 b4 b5 b6 b7 b8 b9 b10 b11 b12 b13 b14 b15 b16 b17 oa od : Nat} (hret : meth.sig.returnType = ret) (hlk : meth.locks = false) (hAq : ∀ q, A q → s.heap.size ≤ q) (K9 : LCx p l s m c g A sx b L xs) : ∀ (d j : Nat), L - 4 * j < d → 4 * j ≤ L → ∀ (kinds tgs first second vals qs : Nat → Int) (hds deed item side picked qcnt An ris qi qo T Tr Tm Nw Kw : Nat → Nat) (ni bc cm cn qc cd : Nat) (fo : Nat → Int64) (fd : Nat → UInt64), Rel kinds tgs first second vals qs hds deed item side picked qcnt An ris qi qo T Tr Tm ni bc cm cn qc → Vx p l e room_1 s m #[Value.ref b] below meth c g A 9 (lw_Z below #[Value.ref b] s) (48 + j) (9120 + 6 * j) (wMA g ma m1 m2 m3 la tp qa sa ta ua kinds ni hds bc tgs ++ (wLog g la l1 l2 l3 l4 l5 l6 l7 l8 l9 deed first second item side picked qcnt An An cm ++ (wPal g tp tv tr vals ris cn ++ (wQuo g qa q1 q2 q3 qi qo qs qc ++ (wScr g sa la qa ++ (wTab g ta tp tlo thi T T ++ (wTab g ua tp ulo uhi Tr Tr ++ (wMM g mm b1 b2 b3 b4 b5 b6 b7 b8 b9 b10 b11 b12 b13 b14 b15 b16 b17 kinds ni cm first second An An Tm Tm bc hds tgs qc qi qo qs cn vals Nw Nw Kw Kw cd ++ (rO g oa fo ++ (rD g od fd ++ ([]))))))))))) [(0, .ref (b)), (1, .ref (ma)), (2, .ref (mm)), (3, .ref (oa)), (4, .ref (od)), (5, .int (iI ((4 * j : Nat) : Int)))] 28 [] := by
  intro d
  induction d with
  | zero => exact fun j h => absurd h (Nat.not_lt_zero _)
  | succ d ih =>
    intro j h1 h2 kinds tgs first second vals qs hds deed item side picked qcnt An ris qi qo T Tr Tm Nw Kw ni bc cm cn qc cd fo fd hR
    obtain ⟨C, hst, hX, hxx, hbl, hbA, hL9⟩ := id K9
    refine v_iload C dL_law_28 5 rfl ?_
    refine v_aload_n C dL_law_30 rfl 0 rfl ?_
    refine v_slen K9 dL_law_31 ?_
    refine v_iconst C (z := 4) dL_law_32 ?_
    refine v_isub C dL_law_33 ?_
    refine v_icmp_gt C 2215 dL_law_34 (by decide) ⟨by omega, by omega⟩ ⟨by omega, by omega⟩ (fun c1 => ?_) (fun c1 => ?_)
    · refine v_iconst C (z := 1) dL_law_2215 ?_
      intro H locs ls hP hD hS hL
      exact va_forget (fun q hq => hAq _ (hS.2.2 q hq)) (W.widen (show 48 + j ≤ 1093 by omega) (show 9120 + 6 * j ≤ 17438 by omega) (W.base (lw_ret (d0 := s.drawn) (Drawn.sameBut.refl s.drawn lw_cs) C.1 C.2.1 hret hlk dL_law_2216)))
    · refine law_step K9 (by omega) (by omega) (by omega) hR ?_
      intro kinds tgs first second vals qs hds deed item side picked qcnt An ris qi qo T Tr Tm Nw Kw ni bc cm cn qc cd fo fd hR2
      refine v_iinc C [(5, .int (iI (((4 * j : Nat) : Int) + 4))), (0, .ref (b)), (1, .ref (ma)), (2, .ref (mm)), (3, .ref (oa)), (4, .ref (od))] dL_law_2209 5 rfl (by decide) rfl ?_
      refine v_goto C 28 dL_law_2212 (by decide) ?_
      rw [show ((4 * j : Nat) : Int) + 4 = ((4 * (j + 1) : Nat) : Int) by omega]
      refine v_lv (lv' := [(0, .ref (b)), (1, .ref (ma)), (2, .ref (mm)), (3, .ref (oa)), (4, .ref (od)), (5, .int (iI ((4 * (j + 1) : Nat) : Int)))]) [1, 2, 3, 4, 5, 0] rfl ?_
      have h9 := ih (j + 1) (by omega) (by omega) kinds tgs first second vals qs hds deed item side picked qcnt An ris qi qo T Tr Tm Nw Kw ni bc cm cn qc cd fo fd hR2
      rw [show 48 + (j + 1) = 48 + j + 1 by omega, show 9120 + 6 * (j + 1) = 9120 + 6 * j + 6 by omega] at h9
      exact h9
