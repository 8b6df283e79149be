theorem and31 (x : Int32) : ∃ r : Nat, r < 32 ∧ x &&& iI 31 = iI ((r : Nat) : Int) := by
  obtain ⟨n, hn, rfl⟩ := wb_of32 x
  refine ⟨n &&& 31, Nat.lt_of_le_of_lt Nat.and_le_right (by decide), ?_⟩
  rw [iI_nI]
  apply Int32.toBitVec_inj.mp
  rw [Int32.toBitVec_and]
  show BitVec.ofNat 32 n &&& 31#32 = BitVec.ofNat 32 (n &&& 31)
  apply BitVec.eq_of_toNat_eq
  have e1 : (BitVec.ofNat 32 n).toNat = n := by rw [BitVec.toNat_ofNat]; exact Nat.mod_eq_of_lt hn
  have e2 : (BitVec.ofNat 32 (n &&& 31)).toNat = n &&& 31 := by rw [BitVec.toNat_ofNat]; exact Nat.mod_eq_of_lt (Nat.lt_of_le_of_lt Nat.and_le_left hn)
  rw [BitVec.toNat_and, e1, e2]
  rfl

set_option maxHeartbeats 4000000 in
theorem law_step {p : Program} {l : Launch} {e : Env} {s : State} {m : MethodId} {below : List Frame} {meth : Method} {c : Code} {g : vG} {A : Nat → Prop} {Q : State → Prop} {b : Nat} {sx : Nat → Nat} {L : Nat} {xs : Nat → Int32} {k n j : Nat} {ma m1 m2 m3 la l1 l2 l3 l4 l5 l6 l7 l8 l9 tp tv tr qa q1 q2 q3 sa ta tlo thi ua ulo uhi mm b1 b2 b3 b4 b5 b6 b7 b8 b9 b10 b11 b12 b13 b14 b15 b16 b17 oa od : Nat} {kinds tgs first second vals qs : Nat → Int} {hds deed item side picked qcnt An ris qi qo T Tr Tm Nw Kw : Nat → Nat} {ni bc cm cn qc cd : Nat} {fo : Nat → Int64} {fd : Nat → UInt64} (K9 : LCx p l s m c g A sx b L xs) (hj : 4 * j + 4 ≤ L) (hk9 : k + 1 ≤ 1093) (hn9 : n + 6 ≤ 17438) (hR : Rel kinds tgs first second vals qs hds deed item side picked qcnt An ris qi qo T Tr Tm ni bc cm cn qc) (kk : LK p l e s m below meth c g A Q b (k + 1) (n + 6) j ma m1 m2 m3 la l1 l2 l3 l4 l5 l6 l7 l8 l9 tp tv tr qa q1 q2 q3 sa ta tlo thi ua ulo uhi mm b1 b2 b3 b4 b5 b6 b7 b8 b9 b10 b11 b12 b13 b14 b15 b16 b17 oa od) : Vx p l e room_1 s m #[Value.ref b] below meth c g A 9 Q k n (wMA g ma m1 m2 m3 la tp qa sa ta ua kinds ni hds bc tgs ++ (wLog g la l1 l2 l3 l4 l5 l6 l7 l8 l9 deed first second item side picked qcnt An An cm ++ (wPal g tp tv tr vals ris cn ++ (wQuo g qa q1 q2 q3 qi qo qs qc ++ (wScr g sa la qa ++ (wTab g ta tp tlo thi T T ++ (wTab g ua tp ulo uhi Tr Tr ++ (wMM g mm b1 b2 b3 b4 b5 b6 b7 b8 b9 b10 b11 b12 b13 b14 b15 b16 b17 kinds ni cm first second An An Tm Tm bc hds tgs qc qi qo qs cn vals Nw Nw Kw Kw cd ++ (rO g oa fo ++ (rD g od fd ++ ([]))))))))))) [(0, .ref (b)), (1, .ref (ma)), (2, .ref (mm)), (3, .ref (oa)), (4, .ref (od)), (5, .int (iI ((4 * j : Nat) : Int)))] 37 [] := by
  obtain ⟨C, hst, hX, hxx, hbl, hbA, hL9⟩ := id K9
  refine v_aload_n C dL_law_37 rfl 0 rfl ?_
  refine v_iload C dL_law_38 5 rfl ?_
  refine v_sld K9 (4 * j) rfl (by omega) (rfl : (xs (4 * j)).toInt = (xs (4 * j)).toInt) dL_law_40 ?_
  refine v_bipush C (z := 31) dL_law_41 rfl ?_
  refine v_iandR C dL_law_43 ?_
  obtain ⟨r, hr, er⟩ := and31 (iI (xs (4 * j)).toInt)
  rw [er]
  by_cases h0 : r = 0
  · subst h0
    refine v_tsw C 0 (140) 184 dL_law_44 ⟨by omega, by omega⟩ rfl (by omega) rfl (by decide) ?_
    exact lc_addItem K9 hj hk9 hn9 hR kk
  by_cases h1 : r = 1
  · subst h1
    refine v_tsw C 1 (198) 242 dL_law_44 ⟨by omega, by omega⟩ rfl (by omega) rfl (by decide) ?_
    exact lc_kindOf K9 hj hk9 hn9 hR kk
  by_cases h2 : r = 2
  · subst h2
    refine v_tsw C 2 (254) 298 dL_law_44 ⟨by omega, by omega⟩ rfl (by omega) rfl (by decide) ?_
    exact lc_addBranch K9 hj hk9 hn9 hR kk
  by_cases h3 : r = 3
  · subst h3
    refine v_tsw C 3 (310) 354 dL_law_44 ⟨by omega, by omega⟩ rfl (by omega) rfl (by decide) ?_
    exact lc_head K9 hj hk9 hn9 hR kk
  by_cases h4 : r = 4
  · subst h4
    refine v_tsw C 4 (366) 410 dL_law_44 ⟨by omega, by omega⟩ rfl (by omega) rfl (by decide) ?_
    exact lc_set K9 hj hk9 hn9 hR kk
  by_cases h5 : r = 5
  · subst h5
    refine v_tsw C 5 (446) 490 dL_law_44 ⟨by omega, by omega⟩ rfl (by omega) rfl (by decide) ?_
    exact lc_clear K9 hj hk9 hn9 hR kk
  by_cases h6 : r = 6
  · subst h6
    refine v_tsw C 6 (514) 558 dL_law_44 ⟨by omega, by omega⟩ rfl (by omega) rfl (by decide) ?_
    exact lc_settle K9 hj hk9 hn9 hR kk
  by_cases h7 : r = 7
  · subst h7
    refine v_tsw C 7 (594) 638 dL_law_44 ⟨by omega, by omega⟩ rfl (by omega) rfl (by decide) ?_
    exact lc_tag K9 hj hk9 hn9 hR kk
  by_cases h8 : r = 8
  · subst h8
    refine v_tsw C 8 (662) 706 dL_law_44 ⟨by omega, by omega⟩ rfl (by omega) rfl (by decide) ?_
    exact lc_tagged K9 hj hk9 hn9 hR kk
  by_cases h9 : r = 9
  · subst h9
    refine v_tsw C 9 (718) 762 dL_law_44 ⟨by omega, by omega⟩ rfl (by omega) rfl (by decide) ?_
    exact lc_commits K9 hj hk9 hn9 hR kk
  by_cases h10 : r = 10
  · subst h10
    refine v_tsw C 10 (731) 775 dL_law_44 ⟨by omega, by omega⟩ rfl (by omega) rfl (by decide) ?_
    exact lc_parents K9 hj hk9 hn9 hR kk
  by_cases h11 : r = 11
  · subst h11
    refine v_tsw C 11 (787) 831 dL_law_44 ⟨by omega, by omega⟩ rfl (by omega) rfl (by decide) ?_
    exact lc_parentAt K9 hj hk9 hn9 hR kk
  by_cases h12 : r = 12
  · subst h12
    refine v_tsw C 12 (855) 899 dL_law_44 ⟨by omega, by omega⟩ rfl (by omega) rfl (by decide) ?_
    exact lc_isAncestor K9 hj hk9 hn9 hR kk
  by_cases h13 : r = 13
  · subst h13
    refine v_tsw C 13 (930) 974 dL_law_44 ⟨by omega, by omega⟩ rfl (by omega) rfl (by decide) ?_
    exact lc_base K9 hj hk9 hn9 hR kk
  by_cases h14 : r = 14
  · subst h14
    refine v_tsw C 14 (998) 1042 dL_law_44 ⟨by omega, by omega⟩ rfl (by omega) rfl (by decide) ?_
    exact lc_sides K9 hj hk9 hn9 hR kk
  by_cases h15 : r = 15
  · subst h15
    refine v_tsw C 15 (1066) 1110 dL_law_44 ⟨by omega, by omega⟩ rfl (by omega) rfl (by decide) ?_
    exact lc_sideAt K9 hj hk9 hn9 hR kk
  by_cases h16 : r = 16
  · subst h16
    refine v_tsw C 16 (1146) 1190 dL_law_44 ⟨by omega, by omega⟩ rfl (by omega) rfl (by decide) ?_
    exact lc_sideByLog K9 hj hk9 hn9 hR kk
  by_cases h17 : r = 17
  · subst h17
    refine v_tsw C 17 (1226) 1270 dL_law_44 ⟨by omega, by omega⟩ rfl (by omega) rfl (by decide) ?_
    exact lc_conflicts K9 hj hk9 hn9 hR kk
  by_cases h18 : r = 18
  · subst h18
    refine v_tsw C 18 (1282) 1326 dL_law_44 ⟨by omega, by omega⟩ rfl (by omega) rfl (by decide) ?_
    exact lc_firstConflict K9 hj hk9 hn9 hR kk
  by_cases h19 : r = 19
  · subst h19
    refine v_tsw C 19 (1338) 1382 dL_law_44 ⟨by omega, by omega⟩ rfl (by omega) rfl (by decide) ?_
    exact lc_differences K9 hj hk9 hn9 hR kk
  by_cases h20 : r = 20
  · subst h20
    refine v_tsw C 20 (1406) 1450 dL_law_44 ⟨by omega, by omega⟩ rfl (by omega) rfl (by decide) ?_
    exact lc_blame K9 hj hk9 hn9 hR kk
  by_cases h21 : r = 21
  · subst h21
    refine v_tsw C 21 (1474) 1518 dL_law_44 ⟨by omega, by omega⟩ rfl (by omega) rfl (by decide) ?_
    exact lc_blamed K9 hj hk9 hn9 hR kk
  by_cases h22 : r = 22
  · subst h22
    refine v_tsw C 22 (1542) 1586 dL_law_44 ⟨by omega, by omega⟩ rfl (by omega) rfl (by decide) ?_
    exact lc_merge K9 hj hk9 hn9 hR kk
  by_cases h23 : r = 23
  · subst h23
    refine v_tsw C 23 (1610) 1654 dL_law_44 ⟨by omega, by omega⟩ rfl (by omega) rfl (by decide) ?_
    exact lc_wouldConflict K9 hj hk9 hn9 hR kk
  by_cases h24 : r = 24
  · subst h24
    refine v_tsw C 24 (1678) 1722 dL_law_44 ⟨by omega, by omega⟩ rfl (by omega) rfl (by decide) ?_
    exact lc_isAlike K9 hj hk9 hn9 hR kk
  by_cases h25 : r = 25
  · subst h25
    refine v_tsw C 25 (1753) 1797 dL_law_44 ⟨by omega, by omega⟩ rfl (by omega) rfl (by decide) ?_
    exact lc_pick K9 hj hk9 hn9 hR kk
  by_cases h26 : r = 26
  · subst h26
    refine v_tsw C 26 (1821) 1865 dL_law_44 ⟨by omega, by omega⟩ rfl (by omega) rfl (by decide) ?_
    exact lc_quote K9 hj hk9 hn9 hR kk
  by_cases h27 : r = 27
  · subst h27
    refine v_tsw C 27 (1901) 1945 dL_law_44 ⟨by omega, by omega⟩ rfl (by omega) rfl (by decide) ?_
    exact lc_isBroken K9 hj hk9 hn9 hR kk
  by_cases h28 : r = 28
  · subst h28
    refine v_tsw C 28 (1976) 2020 dL_law_44 ⟨by omega, by omega⟩ rfl (by omega) rfl (by decide) ?_
    exact lc_broken K9 hj hk9 hn9 hR kk
  by_cases h29 : r = 29
  · subst h29
    refine v_tsw C 29 (2032) 2076 dL_law_44 ⟨by omega, by omega⟩ rfl (by omega) rfl (by decide) ?_
    exact lc_sum K9 hj hk9 hn9 hR kk
  by_cases h30 : r = 30
  · subst h30
    refine v_tsw C 30 (2087) 2131 dL_law_44 ⟨by omega, by omega⟩ rfl (by omega) rfl (by decide) ?_
    exact lc_conflictShare K9 hj hk9 hn9 hR kk
  refine v_tswOut C 2209 dL_law_44 ⟨by omega, by omega⟩ (by omega) (by decide) ?_
  refine v_wid (Nat.le_succ _) (Nat.le_add_right n 6) ?_
  exact kk kinds tgs first second vals qs hds deed item side picked qcnt An ris qi qo T Tr Tm Nw Kw ni bc cm cn qc cd fo fd hR
