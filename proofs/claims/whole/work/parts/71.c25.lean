set_option maxHeartbeats 16000000 in
set_option maxRecDepth 100000 in
theorem lc_isBroken {p : Program} {l : Launch} {e : Env} {s : State} {m : MethodId} {below : List Frame} {meth : Method} {c : Code} {g : vG} {A : Nat → Prop} {Q : State → Prop} {b : Nat} {sx : Nat → Nat} {L : Nat} {xs : Nat → Int32} {k n j : Nat} {ma m1 m2 m3 la l1 l2 l3 l4 l5 l6 l7 l8 l9 tp tv tr qa q1 q2 q3 sa ta tlo thi ua ulo uhi mm b1 b2 b3 b4 b5 b6 b7 b8 b9 b10 b11 b12 b13 b14 b15 b16 b17 oa od : Nat} {kinds tgs first second vals qs : Nat → Int} {hds deed item side picked qcnt An ris qi qo T Tr Tm Nw Kw : Nat → Nat} {ni bc cm cn qc cd : Nat} {fo : Nat → Int64} {fd : Nat → UInt64} (K9 : LCx p l s m c g A sx b L xs) (hj : 4 * j + 4 ≤ L) (hk9 : k + 1 ≤ 1093) (hn9 : n + 6 ≤ 17438) (hR : Rel kinds tgs first second vals qs hds deed item side picked qcnt An ris qi qo T Tr Tm ni bc cm cn qc) (kk : LK p l e s m below meth c g A Q b (k + 1) (n + 6) j ma m1 m2 m3 la l1 l2 l3 l4 l5 l6 l7 l8 l9 tp tv tr qa q1 q2 q3 sa ta tlo thi ua ulo uhi mm b1 b2 b3 b4 b5 b6 b7 b8 b9 b10 b11 b12 b13 b14 b15 b16 b17 oa od) : Vx p l e room_1 s m #[Value.ref b] below meth c g A 9 Q k n (wMA g ma m1 m2 m3 la tp qa sa ta ua kinds ni hds bc tgs ++ (wLog g la l1 l2 l3 l4 l5 l6 l7 l8 l9 deed first second item side picked qcnt An An cm ++ (wPal g tp tv tr vals ris cn ++ (wQuo g qa q1 q2 q3 qi qo qs qc ++ (wScr g sa la qa ++ (wTab g ta tp tlo thi T T ++ (wTab g ua tp ulo uhi Tr Tr ++ (wMM g mm b1 b2 b3 b4 b5 b6 b7 b8 b9 b10 b11 b12 b13 b14 b15 b16 b17 kinds ni cm first second An An Tm Tm bc hds tgs qc qi qo qs cn vals Nw Nw Kw Kw cd ++ (rO g oa fo ++ (rD g od fd ++ ([]))))))))))) [(0, .ref (b)), (1, .ref (ma)), (2, .ref (mm)), (3, .ref (oa)), (4, .ref (od)), (5, .int (iI ((4 * j : Nat) : Int)))] 1945 [] := by
  have hk9r : k + 1 ≤ room_1.cells := hk9
  have hn9r : n + 6 ≤ room_1.slots := hn9
  have hk9m : k + 1 + 0 ≤ room_1.cells := hk9
  have hn9m : n + 6 + 0 ≤ room_1.slots := hn9
  obtain ⟨C, hst, hX, hxx, hbl, hbA, hL9⟩ := id K9
  have hI := hR.1
  obtain ⟨hni, hbc1, hbc, hcm1, hcm, hcn1, hnm, hqc, hhd, htg, hf, hs, hfc, hsc, hAn, hTm, hao, hpal, hqb, hqi, htk, hkd⟩ := id hI
  obtain ⟨⟨ct1, ct0, hlk, hlq, hrw, hT9⟩, hTr, hTT, hzz⟩ := id hR.2
  obtain ⟨⟨-, hcn⟩, -, -, hrc, -, -, hv, hris9⟩ := id hpal
  obtain ⟨x, hxe⟩ : ∃ x : Int, (xs (4 * j + 1)).toInt = x := ⟨_, rfl⟩
  have hx : b31 x := hxe ▸ iI_bd _
  have hx1 := hx.1
  have hx2 := hx.2
  obtain ⟨y, hye⟩ : ∃ x : Int, (xs (4 * j + 2)).toInt = x := ⟨_, rfl⟩
  have hy : b31 y := hye ▸ iI_bd _
  have hy1 := hy.1
  have hy2 := hy.2
  by_cases hrx : 0 ≤ x ∧ x < ((qc : Nat) : Int)
  rotate_left
  ·
    refine v_aload_n C dL_law_1945 rfl 1 rfl ?_
    refine v_aload_n C dL_law_1946 rfl 0 rfl ?_
    refine v_iload C dL_law_1947 5 rfl ?_
    refine v_iconst C (z := 1) dL_law_1949 ?_
    refine v_iadd C dL_law_1950 ?_
    rw [show (((4 * j : Nat) : Int)) + 1 = (((4 * j) + 1 : Nat) : Int) from rfl]
    refine v_sld K9 ((4 * j) + 1) rfl (by omega) hxe dL_law_1951 ?_
    refine v_aload_n C dL_law_1952 rfl 0 rfl ?_
    refine v_iload C dL_law_1953 5 rfl ?_
    refine v_iconst C (z := 2) dL_law_1955 ?_
    refine v_iadd C dL_law_1956 ?_
    rw [show (((4 * j : Nat) : Int)) + 2 = (((4 * j) + 2 : Nat) : Int) from rfl]
    refine v_sld K9 ((4 * j) + 2) rfl (by omega) hye dL_law_1957 ?_
    refine v_aload_n C dL_law_1958 rfl 3 rfl ?_
    refine v_lwI C hX (As := [.ref (ma), .int (iI (x)), .int (iI (y)), .ref (oa)]) (kL_isBroken_1 l g sx hst (ma := ma) (m1 := m1) (m2 := m2) (m3 := m3) (la := la) (tp := tp) (qa := qa) (sa := sa) (ta := ta) (ua := ua) (kinds := kinds) (tgs := tgs) (hds := hds) (ni := ni) (bc := bc) (l1 := l1) (l2 := l2) (l3 := l3) (l4 := l4) (l5 := l5) (l6 := l6) (l7 := l7) (l8 := l8) (l9 := l9) (deed := deed) (item := item) (side := side) (picked := picked) (qcnt := qcnt) (An := An) (first := first) (second := second) (cm := cm) (tv := tv) (tr := tr) (vals := vals) (ris := ris) (cn := cn) (q1 := q1) (q2 := q2) (q3 := q3) (qi := qi) (qo := qo) (qs := qs) (qc := qc) (tlo := tlo) (thi := thi) (T := T) (oa := oa) (fo := fo) (x := x) (y := y) hx hy hcm hqc hcn hqb hv (by omega)) (vx_cwSW 4 C.2.2.2.2.1 gL_law_L_isBroken rfl rfl rfl (by decide +kernel) ⟨Nat.le_of_ble_eq_true rfl, Nat.le_of_ble_eq_true rfl⟩) [wMA g ma m1 m2 m3 la tp qa sa ta ua kinds ni hds bc tgs, wLog g la l1 l2 l3 l4 l5 l6 l7 l8 l9 deed first second item side picked qcnt An An cm, wPal g tp tv tr vals ris cn, wQuo g qa q1 q2 q3 qi qo qs qc, wScr g sa la qa, wTab g ta tp tlo thi T T, wTab g ua tp ulo uhi Tr Tr, wMM g mm b1 b2 b3 b4 b5 b6 b7 b8 b9 b10 b11 b12 b13 b14 b15 b16 b17 kinds ni cm first second An An Tm Tm bc hds tgs qc qi qo qs cn vals Nw Nw Kw Kw cd, rO g oa fo, rD g od fd] [0, 1, 2, 3, 5, 8] [4, 6, 7, 9] [] (fun _ => [wMA g ma m1 m2 m3 la tp qa sa ta ua kinds ni hds bc tgs, wLog g la l1 l2 l3 l4 l5 l6 l7 l8 l9 deed first second item side picked qcnt An An cm, wPal g tp tv tr vals ris cn, wQuo g qa q1 q2 q3 qi qo qs qc, wScr g sa la qa, wTab g ta tp tlo thi T T, wTab g ua tp ulo uhi Tr Tr, wMM g mm b1 b2 b3 b4 b5 b6 b7 b8 b9 b10 b11 b12 b13 b14 b15 b16 b17 kinds ni cm first second An An Tm Tm bc hds tgs qc qi qo qs cn vals Nw Nw Kw Kw cd, rO g oa fo, rD g od fd]) (fun _ => wMA g ma m1 m2 m3 la tp qa sa ta ua kinds ni hds bc tgs ++ (wLog g la l1 l2 l3 l4 l5 l6 l7 l8 l9 deed first second item side picked qcnt An An cm ++ (wPal g tp tv tr vals ris cn ++ (wQuo g qa q1 q2 q3 qi qo qs qc ++ (wScr g sa la qa ++ (wTab g ta tp tlo thi T T ++ (wTab g ua tp ulo uhi Tr Tr ++ (wMM g mm b1 b2 b3 b4 b5 b6 b7 b8 b9 b10 b11 b12 b13 b14 b15 b16 b17 kinds ni cm first second An An Tm Tm bc hds tgs qc qi qo qs cn vals Nw Nw Kw Kw cd ++ (rO g oa fo ++ (rD g od fd ++ ([]))))))))))) okP_0_1_2_3_5_8 (fl10 _ _ _ _ _ _ _ _ _ _).symm (pkC_0_1_2_3_5_8 _ _ _ _ _ _ _ _ _ _) (fun _ => pkC_0_1_2_3_5_8 _ _ _ _ _ _ _ _ _ _) (fun _ => pkR_0_1_2_3_5_8 _ _ _ _ _ _ _ _ _ _ _ _ _ _ _ _) (fun _ => rfl) (fun _ => fl10 _ _ _ _ _ _ _ _ _ _) rfl rfl (Nat.le_of_ble_eq_true rfl) dL_law_1959 ⟨hk9r, hn9r⟩ (fun r u hr9 => ?_)
    subst hr9
    refine v_istore C [(6, .int (iI (1))), (0, .ref (b)), (1, .ref (ma)), (2, .ref (mm)), (3, .ref (oa)), (4, .ref (od)), (5, .int (iI ((4 * j : Nat) : Int)))] dL_law_1962 (by decide) rfl ?_
    refine v_aload_n C dL_law_1964 rfl 3 rfl ?_
    refine v_aload_n C dL_law_1965 rfl 1 rfl ?_
    refine v_iload C dL_law_1966 6 rfl ?_
    refine v_iconst C (z := 1) dL_law_1968 ?_
    refine v_iadd C dL_law_1969 ?_
    rw [show (((4 * j : Nat) : Int)) + 1 = (((4 * j) + 1 : Nat) : Int) from rfl]
    refine v_sld K9 ((4 * j) + 1) rfl (by omega) hxe dL_law_1970 ?_
    refine v_aload_n C dL_law_1971 rfl 1 rfl ?_
    refine v_iload C dL_law_1972 6 rfl ?_
    refine v_iconst C (z := 2) dL_law_1974 ?_
    refine v_iadd C dL_law_1975 ?_
    rw [show (((4 * j : Nat) : Int)) + 2 = (((4 * j) + 2 : Nat) : Int) from rfl]
    refine v_sld K9 ((4 * j) + 2) rfl (by omega) hye dL_law_1976 ?_
    refine v_invVI C (As := [.int (iI (x)), .int (iI (y))]) (q0 := 0) (ci := 6) (kX6_isBroken_a l g (mm := mm) (b1 := b1) (b2 := b2) (b3 := b3) (b4 := b4) (b5 := b5) (b6 := b6) (b7 := b7) (b8 := b8) (b9 := b9) (b10 := b10) (b11 := b11) (b12 := b12) (b13 := b13) (b14 := b14) (b15 := b15) (b16 := b16) (b17 := b17) (kinds := kinds) (tgs := tgs) (first := first) (second := second) (vals := vals) (qs := qs) (hds := hds) (An := An) (qi := qi) (qo := qo) (Tm := Tm) (Nw := Nw) (Kw := Kw) (ni := ni) (bc := bc) (cm := cm) (cn := cn) (qc := qc) (cd := cd) (ris := ris) (x := x) (y := y) hI ⟨by omega, by omega⟩ (by omega) ⟨by omega, by omega⟩) (cwV 2 C.2.2.2.2.1 gL_law_X6_isBroken rfl rfl rfl (by decide +kernel) ⟨Nat.le_of_ble_eq_true rfl, Nat.le_of_ble_eq_true rfl⟩) [wMA g ma m1 m2 m3 la tp qa sa ta ua kinds ni hds bc tgs, wLog g la l1 l2 l3 l4 l5 l6 l7 l8 l9 deed first second item side picked qcnt An An cm, wPal g tp tv tr vals ris cn, wQuo g qa q1 q2 q3 qi qo qs qc, wScr g sa la qa, wTab g ta tp tlo thi T T, wTab g ua tp ulo uhi Tr Tr, wMM g mm b1 b2 b3 b4 b5 b6 b7 b8 b9 b10 b11 b12 b13 b14 b15 b16 b17 kinds ni cm first second An An Tm Tm bc hds tgs qc qi qo qs cn vals Nw Nw Kw Kw cd, rO g oa fo, rD g od fd] [7] [0, 1, 2, 3, 4, 5, 6, 8, 9] [] (fun _ => [wMA g ma m1 m2 m3 la tp qa sa ta ua kinds ni hds bc tgs, wLog g la l1 l2 l3 l4 l5 l6 l7 l8 l9 deed first second item side picked qcnt An An cm, wPal g tp tv tr vals ris cn, wQuo g qa q1 q2 q3 qi qo qs qc, wScr g sa la qa, wTab g ta tp tlo thi T T, wTab g ua tp ulo uhi Tr Tr, wMM g mm b1 b2 b3 b4 b5 b6 b7 b8 b9 b10 b11 b12 b13 b14 b15 b16 b17 kinds ni cm first second An An Tm Tm bc hds tgs qc qi qo qs cn vals Nw Nw Kw Kw 1, rO g oa fo, rD g od fd]) (fun _ => wMA g ma m1 m2 m3 la tp qa sa ta ua kinds ni hds bc tgs ++ (wLog g la l1 l2 l3 l4 l5 l6 l7 l8 l9 deed first second item side picked qcnt An An cm ++ (wPal g tp tv tr vals ris cn ++ (wQuo g qa q1 q2 q3 qi qo qs qc ++ (wScr g sa la qa ++ (wTab g ta tp tlo thi T T ++ (wTab g ua tp ulo uhi Tr Tr ++ (wMM g mm b1 b2 b3 b4 b5 b6 b7 b8 b9 b10 b11 b12 b13 b14 b15 b16 b17 kinds ni cm first second An An Tm Tm bc hds tgs qc qi qo qs cn vals Nw Nw Kw Kw 1 ++ (rO g oa fo ++ (rD g od fd ++ ([]))))))))))) okP_7 (fl10 _ _ _ _ _ _ _ _ _ _).symm (pkC_7 _ _ _ _ _ _ _ _ _ _) (fun _ => pkC_7 _ _ _ _ _ _ _ _ _ _) (fun _ => pkR_7 _ _ _ _ _ _ _ _ _ _ _) (fun _ => rfl) (fun _ => fl10 _ _ _ _ _ _ _ _ _ _) rfl rfl rfl rfl rfl (Nat.le_of_ble_eq_true rfl) dL_law_1977 ⟨hk9m, hn9m⟩ (fun r_2 _ h_1 => ?_)
    refine v_istore C [(7, .int (r_2)), (6, .int (iI (1))), (0, .ref (b)), (1, .ref (ma)), (2, .ref (mm)), (3, .ref (oa)), (4, .ref (od)), (5, .int (iI ((4 * j : Nat) : Int)))] dL_law_1980 (by decide) rfl ?_
    refine v_aload_n C dL_law_1982 rfl 4 rfl ?_
    refine v_invVI C (As := []) (q0 := 0) (ci := 6) (kX6_thrown l g (mm := mm) (b1 := b1) (b2 := b2) (b3 := b3) (b4 := b4) (b5 := b5) (b6 := b6) (b7 := b7) (b8 := b8) (b9 := b9) (b10 := b10) (b11 := b11) (b12 := b12) (b13 := b13) (b14 := b14) (b15 := b15) (b16 := b16) (b17 := b17) (kinds := kinds) (tgs := tgs) (first := first) (second := second) (vals := vals) (qs := qs) (hds := hds) (An := An) (qi := qi) (qo := qo) (Tm := Tm) (Nw := Nw) (Kw := Kw) (ni := ni) (bc := bc) (cm := cm) (cn := cn) (qc := qc) (cd := 1) (ris := ris)  ) (cwV 0 C.2.2.2.2.1 gL_law_X6_thrown rfl rfl rfl (by decide +kernel) ⟨Nat.le_of_ble_eq_true rfl, Nat.le_of_ble_eq_true rfl⟩) [wMA g ma m1 m2 m3 la tp qa sa ta ua kinds ni hds bc tgs, wLog g la l1 l2 l3 l4 l5 l6 l7 l8 l9 deed first second item side picked qcnt An An cm, wPal g tp tv tr vals ris cn, wQuo g qa q1 q2 q3 qi qo qs qc, wScr g sa la qa, wTab g ta tp tlo thi T T, wTab g ua tp ulo uhi Tr Tr, wMM g mm b1 b2 b3 b4 b5 b6 b7 b8 b9 b10 b11 b12 b13 b14 b15 b16 b17 kinds ni cm first second An An Tm Tm bc hds tgs qc qi qo qs cn vals Nw Nw Kw Kw 1, rO g oa fo, rD g od fd] [7] [0, 1, 2, 3, 4, 5, 6, 8, 9] [] (fun _ => [wMA g ma m1 m2 m3 la tp qa sa ta ua kinds ni hds bc tgs, wLog g la l1 l2 l3 l4 l5 l6 l7 l8 l9 deed first second item side picked qcnt An An cm, wPal g tp tv tr vals ris cn, wQuo g qa q1 q2 q3 qi qo qs qc, wScr g sa la qa, wTab g ta tp tlo thi T T, wTab g ua tp ulo uhi Tr Tr, wMM g mm b1 b2 b3 b4 b5 b6 b7 b8 b9 b10 b11 b12 b13 b14 b15 b16 b17 kinds ni cm first second An An Tm Tm bc hds tgs qc qi qo qs cn vals Nw Nw Kw Kw 1, rO g oa fo, rD g od fd]) (fun _ => wMA g ma m1 m2 m3 la tp qa sa ta ua kinds ni hds bc tgs ++ (wLog g la l1 l2 l3 l4 l5 l6 l7 l8 l9 deed first second item side picked qcnt An An cm ++ (wPal g tp tv tr vals ris cn ++ (wQuo g qa q1 q2 q3 qi qo qs qc ++ (wScr g sa la qa ++ (wTab g ta tp tlo thi T T ++ (wTab g ua tp ulo uhi Tr Tr ++ (wMM g mm b1 b2 b3 b4 b5 b6 b7 b8 b9 b10 b11 b12 b13 b14 b15 b16 b17 kinds ni cm first second An An Tm Tm bc hds tgs qc qi qo qs cn vals Nw Nw Kw Kw 1 ++ (rO g oa fo ++ (rD g od fd ++ ([]))))))))))) okP_7 (fl10 _ _ _ _ _ _ _ _ _ _).symm (pkC_7 _ _ _ _ _ _ _ _ _ _) (fun _ => pkC_7 _ _ _ _ _ _ _ _ _ _) (fun _ => pkR_7 _ _ _ _ _ _ _ _ _ _ _) (fun _ => rfl) (fun _ => fl10 _ _ _ _ _ _ _ _ _ _) rfl rfl rfl rfl rfl (Nat.le_of_ble_eq_true rfl) dL_law_1983 ⟨hk9m, hn9m⟩ (fun r_4 _ h_3 => ?_)
    subst h_3
    refine v_st (st' := [.int (iI (1))]) rfl ?_
    refine v_iload C dL_law_1986 1 rfl ?_
    refine v_icmp_eq C 1993 dL_law_1988 (by decide) (b31_lit _ rfl) (b31_lit _ rfl) (fun _ => ?_) (fun h => absurd h (by decide))
    refine v_iload C dL_law_1993 1 rfl ?_
    refine v_if_ne C 2017 dL_law_1995 (by decide) (b31_lit _ rfl) (fun _ => ?_) (fun h => absurd h (by decide))
    refine v_goto C 2209 dL_law_2017 (by decide) ?_
    refine v_lv (lv' := [(0, .ref (b)), (1, .ref (ma)), (2, .ref (mm)), (3, .ref (oa)), (4, .ref (od)), (5, .int (iI ((4 * j : Nat) : Int)))]) [2, 3, 4, 5, 6, 7] rfl ?_
    exact kk kinds tgs first second vals qs hds deed item side picked qcnt An ris qi qo T Tr Tm Nw Kw ni bc cm cn qc 1 fo fd hR
  obtain ⟨x0, rfl⟩ : ∃ i : Nat, x = (i : Int) := ⟨x.toNat, by omega⟩
  have hx0 : x0 < qc := by omega
  by_cases hry : 0 ≤ y ∧ y < ((cm : Nat) : Int)
  rotate_left
  ·
    refine v_aload_n C dL_law_1945 rfl 1 rfl ?_
    refine v_aload_n C dL_law_1946 rfl 0 rfl ?_
    refine v_iload C dL_law_1947 5 rfl ?_
    refine v_iconst C (z := 1) dL_law_1949 ?_
    refine v_iadd C dL_law_1950 ?_
    rw [show (((4 * j : Nat) : Int)) + 1 = (((4 * j) + 1 : Nat) : Int) from rfl]
    refine v_sld K9 ((4 * j) + 1) rfl (by omega) hxe dL_law_1951 ?_
    refine v_aload_n C dL_law_1952 rfl 0 rfl ?_
    refine v_iload C dL_law_1953 5 rfl ?_
    refine v_iconst C (z := 2) dL_law_1955 ?_
    refine v_iadd C dL_law_1956 ?_
    rw [show (((4 * j : Nat) : Int)) + 2 = (((4 * j) + 2 : Nat) : Int) from rfl]
    refine v_sld K9 ((4 * j) + 2) rfl (by omega) hye dL_law_1957 ?_
    refine v_aload_n C dL_law_1958 rfl 3 rfl ?_
    refine v_lwI C hX (As := [.ref (ma), .int (iI ((x0 : Nat) : Int)), .int (iI (y)), .ref (oa)]) (kL_isBroken_1 l g sx hst (ma := ma) (m1 := m1) (m2 := m2) (m3 := m3) (la := la) (tp := tp) (qa := qa) (sa := sa) (ta := ta) (ua := ua) (kinds := kinds) (tgs := tgs) (hds := hds) (ni := ni) (bc := bc) (l1 := l1) (l2 := l2) (l3 := l3) (l4 := l4) (l5 := l5) (l6 := l6) (l7 := l7) (l8 := l8) (l9 := l9) (deed := deed) (item := item) (side := side) (picked := picked) (qcnt := qcnt) (An := An) (first := first) (second := second) (cm := cm) (tv := tv) (tr := tr) (vals := vals) (ris := ris) (cn := cn) (q1 := q1) (q2 := q2) (q3 := q3) (qi := qi) (qo := qo) (qs := qs) (qc := qc) (tlo := tlo) (thi := thi) (T := T) (oa := oa) (fo := fo) (x := ((x0 : Nat) : Int)) (y := y) ⟨by omega, by omega⟩ hy hcm hqc hcn hqb hv (by omega)) (vx_cwSW 4 C.2.2.2.2.1 gL_law_L_isBroken rfl rfl rfl (by decide +kernel) ⟨Nat.le_of_ble_eq_true rfl, Nat.le_of_ble_eq_true rfl⟩) [wMA g ma m1 m2 m3 la tp qa sa ta ua kinds ni hds bc tgs, wLog g la l1 l2 l3 l4 l5 l6 l7 l8 l9 deed first second item side picked qcnt An An cm, wPal g tp tv tr vals ris cn, wQuo g qa q1 q2 q3 qi qo qs qc, wScr g sa la qa, wTab g ta tp tlo thi T T, wTab g ua tp ulo uhi Tr Tr, wMM g mm b1 b2 b3 b4 b5 b6 b7 b8 b9 b10 b11 b12 b13 b14 b15 b16 b17 kinds ni cm first second An An Tm Tm bc hds tgs qc qi qo qs cn vals Nw Nw Kw Kw cd, rO g oa fo, rD g od fd] [0, 1, 2, 3, 5, 8] [4, 6, 7, 9] [] (fun _ => [wMA g ma m1 m2 m3 la tp qa sa ta ua kinds ni hds bc tgs, wLog g la l1 l2 l3 l4 l5 l6 l7 l8 l9 deed first second item side picked qcnt An An cm, wPal g tp tv tr vals ris cn, wQuo g qa q1 q2 q3 qi qo qs qc, wScr g sa la qa, wTab g ta tp tlo thi T T, wTab g ua tp ulo uhi Tr Tr, wMM g mm b1 b2 b3 b4 b5 b6 b7 b8 b9 b10 b11 b12 b13 b14 b15 b16 b17 kinds ni cm first second An An Tm Tm bc hds tgs qc qi qo qs cn vals Nw Nw Kw Kw cd, rO g oa fo, rD g od fd]) (fun _ => wMA g ma m1 m2 m3 la tp qa sa ta ua kinds ni hds bc tgs ++ (wLog g la l1 l2 l3 l4 l5 l6 l7 l8 l9 deed first second item side picked qcnt An An cm ++ (wPal g tp tv tr vals ris cn ++ (wQuo g qa q1 q2 q3 qi qo qs qc ++ (wScr g sa la qa ++ (wTab g ta tp tlo thi T T ++ (wTab g ua tp ulo uhi Tr Tr ++ (wMM g mm b1 b2 b3 b4 b5 b6 b7 b8 b9 b10 b11 b12 b13 b14 b15 b16 b17 kinds ni cm first second An An Tm Tm bc hds tgs qc qi qo qs cn vals Nw Nw Kw Kw cd ++ (rO g oa fo ++ (rD g od fd ++ ([]))))))))))) okP_0_1_2_3_5_8 (fl10 _ _ _ _ _ _ _ _ _ _).symm (pkC_0_1_2_3_5_8 _ _ _ _ _ _ _ _ _ _) (fun _ => pkC_0_1_2_3_5_8 _ _ _ _ _ _ _ _ _ _) (fun _ => pkR_0_1_2_3_5_8 _ _ _ _ _ _ _ _ _ _ _ _ _ _ _ _) (fun _ => rfl) (fun _ => fl10 _ _ _ _ _ _ _ _ _ _) rfl rfl (Nat.le_of_ble_eq_true rfl) dL_law_1959 ⟨hk9r, hn9r⟩ (fun r u hr9 => ?_)
    subst hr9
    refine v_istore C [(6, .int (iI (1))), (0, .ref (b)), (1, .ref (ma)), (2, .ref (mm)), (3, .ref (oa)), (4, .ref (od)), (5, .int (iI ((4 * j : Nat) : Int)))] dL_law_1962 (by decide) rfl ?_
    refine v_aload_n C dL_law_1964 rfl 3 rfl ?_
    refine v_aload_n C dL_law_1965 rfl 1 rfl ?_
    refine v_iload C dL_law_1966 6 rfl ?_
    refine v_iconst C (z := 1) dL_law_1968 ?_
    refine v_iadd C dL_law_1969 ?_
    rw [show (((4 * j : Nat) : Int)) + 1 = (((4 * j) + 1 : Nat) : Int) from rfl]
    refine v_sld K9 ((4 * j) + 1) rfl (by omega) hxe dL_law_1970 ?_
    refine v_aload_n C dL_law_1971 rfl 1 rfl ?_
    refine v_iload C dL_law_1972 6 rfl ?_
    refine v_iconst C (z := 2) dL_law_1974 ?_
    refine v_iadd C dL_law_1975 ?_
    rw [show (((4 * j : Nat) : Int)) + 2 = (((4 * j) + 2 : Nat) : Int) from rfl]
    refine v_sld K9 ((4 * j) + 2) rfl (by omega) hye dL_law_1976 ?_
    refine v_invVI C (As := [.int (iI ((x0 : Nat) : Int)), .int (iI (y))]) (q0 := 0) (ci := 6) (kX6_isBroken_b l g (mm := mm) (b1 := b1) (b2 := b2) (b3 := b3) (b4 := b4) (b5 := b5) (b6 := b6) (b7 := b7) (b8 := b8) (b9 := b9) (b10 := b10) (b11 := b11) (b12 := b12) (b13 := b13) (b14 := b14) (b15 := b15) (b16 := b16) (b17 := b17) (kinds := kinds) (tgs := tgs) (first := first) (second := second) (vals := vals) (qs := qs) (hds := hds) (An := An) (qi := qi) (qo := qo) (Tm := Tm) (Nw := Nw) (Kw := Kw) (ni := ni) (bc := bc) (cm := cm) (cn := cn) (qc := qc) (cd := cd) (ris := ris) (x0 := x0) (y := y) hI (by omega) ⟨by omega, by omega⟩ (by omega)) (cwV 2 C.2.2.2.2.1 gL_law_X6_isBroken rfl rfl rfl (by decide +kernel) ⟨Nat.le_of_ble_eq_true rfl, Nat.le_of_ble_eq_true rfl⟩) [wMA g ma m1 m2 m3 la tp qa sa ta ua kinds ni hds bc tgs, wLog g la l1 l2 l3 l4 l5 l6 l7 l8 l9 deed first second item side picked qcnt An An cm, wPal g tp tv tr vals ris cn, wQuo g qa q1 q2 q3 qi qo qs qc, wScr g sa la qa, wTab g ta tp tlo thi T T, wTab g ua tp ulo uhi Tr Tr, wMM g mm b1 b2 b3 b4 b5 b6 b7 b8 b9 b10 b11 b12 b13 b14 b15 b16 b17 kinds ni cm first second An An Tm Tm bc hds tgs qc qi qo qs cn vals Nw Nw Kw Kw cd, rO g oa fo, rD g od fd] [7] [0, 1, 2, 3, 4, 5, 6, 8, 9] [] (fun _ => [wMA g ma m1 m2 m3 la tp qa sa ta ua kinds ni hds bc tgs, wLog g la l1 l2 l3 l4 l5 l6 l7 l8 l9 deed first second item side picked qcnt An An cm, wPal g tp tv tr vals ris cn, wQuo g qa q1 q2 q3 qi qo qs qc, wScr g sa la qa, wTab g ta tp tlo thi T T, wTab g ua tp ulo uhi Tr Tr, wMM g mm b1 b2 b3 b4 b5 b6 b7 b8 b9 b10 b11 b12 b13 b14 b15 b16 b17 kinds ni cm first second An An Tm Tm bc hds tgs qc qi qo qs cn vals Nw Nw Kw Kw 1, rO g oa fo, rD g od fd]) (fun _ => wMA g ma m1 m2 m3 la tp qa sa ta ua kinds ni hds bc tgs ++ (wLog g la l1 l2 l3 l4 l5 l6 l7 l8 l9 deed first second item side picked qcnt An An cm ++ (wPal g tp tv tr vals ris cn ++ (wQuo g qa q1 q2 q3 qi qo qs qc ++ (wScr g sa la qa ++ (wTab g ta tp tlo thi T T ++ (wTab g ua tp ulo uhi Tr Tr ++ (wMM g mm b1 b2 b3 b4 b5 b6 b7 b8 b9 b10 b11 b12 b13 b14 b15 b16 b17 kinds ni cm first second An An Tm Tm bc hds tgs qc qi qo qs cn vals Nw Nw Kw Kw 1 ++ (rO g oa fo ++ (rD g od fd ++ ([]))))))))))) okP_7 (fl10 _ _ _ _ _ _ _ _ _ _).symm (pkC_7 _ _ _ _ _ _ _ _ _ _) (fun _ => pkC_7 _ _ _ _ _ _ _ _ _ _) (fun _ => pkR_7 _ _ _ _ _ _ _ _ _ _ _) (fun _ => rfl) (fun _ => fl10 _ _ _ _ _ _ _ _ _ _) rfl rfl rfl rfl rfl (Nat.le_of_ble_eq_true rfl) dL_law_1977 ⟨hk9m, hn9m⟩ (fun r_6 _ h_5 => ?_)
    refine v_istore C [(7, .int (r_6)), (6, .int (iI (1))), (0, .ref (b)), (1, .ref (ma)), (2, .ref (mm)), (3, .ref (oa)), (4, .ref (od)), (5, .int (iI ((4 * j : Nat) : Int)))] dL_law_1980 (by decide) rfl ?_
    refine v_aload_n C dL_law_1982 rfl 4 rfl ?_
    refine v_invVI C (As := []) (q0 := 0) (ci := 6) (kX6_thrown l g (mm := mm) (b1 := b1) (b2 := b2) (b3 := b3) (b4 := b4) (b5 := b5) (b6 := b6) (b7 := b7) (b8 := b8) (b9 := b9) (b10 := b10) (b11 := b11) (b12 := b12) (b13 := b13) (b14 := b14) (b15 := b15) (b16 := b16) (b17 := b17) (kinds := kinds) (tgs := tgs) (first := first) (second := second) (vals := vals) (qs := qs) (hds := hds) (An := An) (qi := qi) (qo := qo) (Tm := Tm) (Nw := Nw) (Kw := Kw) (ni := ni) (bc := bc) (cm := cm) (cn := cn) (qc := qc) (cd := 1) (ris := ris)  ) (cwV 0 C.2.2.2.2.1 gL_law_X6_thrown rfl rfl rfl (by decide +kernel) ⟨Nat.le_of_ble_eq_true rfl, Nat.le_of_ble_eq_true rfl⟩) [wMA g ma m1 m2 m3 la tp qa sa ta ua kinds ni hds bc tgs, wLog g la l1 l2 l3 l4 l5 l6 l7 l8 l9 deed first second item side picked qcnt An An cm, wPal g tp tv tr vals ris cn, wQuo g qa q1 q2 q3 qi qo qs qc, wScr g sa la qa, wTab g ta tp tlo thi T T, wTab g ua tp ulo uhi Tr Tr, wMM g mm b1 b2 b3 b4 b5 b6 b7 b8 b9 b10 b11 b12 b13 b14 b15 b16 b17 kinds ni cm first second An An Tm Tm bc hds tgs qc qi qo qs cn vals Nw Nw Kw Kw 1, rO g oa fo, rD g od fd] [7] [0, 1, 2, 3, 4, 5, 6, 8, 9] [] (fun _ => [wMA g ma m1 m2 m3 la tp qa sa ta ua kinds ni hds bc tgs, wLog g la l1 l2 l3 l4 l5 l6 l7 l8 l9 deed first second item side picked qcnt An An cm, wPal g tp tv tr vals ris cn, wQuo g qa q1 q2 q3 qi qo qs qc, wScr g sa la qa, wTab g ta tp tlo thi T T, wTab g ua tp ulo uhi Tr Tr, wMM g mm b1 b2 b3 b4 b5 b6 b7 b8 b9 b10 b11 b12 b13 b14 b15 b16 b17 kinds ni cm first second An An Tm Tm bc hds tgs qc qi qo qs cn vals Nw Nw Kw Kw 1, rO g oa fo, rD g od fd]) (fun _ => wMA g ma m1 m2 m3 la tp qa sa ta ua kinds ni hds bc tgs ++ (wLog g la l1 l2 l3 l4 l5 l6 l7 l8 l9 deed first second item side picked qcnt An An cm ++ (wPal g tp tv tr vals ris cn ++ (wQuo g qa q1 q2 q3 qi qo qs qc ++ (wScr g sa la qa ++ (wTab g ta tp tlo thi T T ++ (wTab g ua tp ulo uhi Tr Tr ++ (wMM g mm b1 b2 b3 b4 b5 b6 b7 b8 b9 b10 b11 b12 b13 b14 b15 b16 b17 kinds ni cm first second An An Tm Tm bc hds tgs qc qi qo qs cn vals Nw Nw Kw Kw 1 ++ (rO g oa fo ++ (rD g od fd ++ ([]))))))))))) okP_7 (fl10 _ _ _ _ _ _ _ _ _ _).symm (pkC_7 _ _ _ _ _ _ _ _ _ _) (fun _ => pkC_7 _ _ _ _ _ _ _ _ _ _) (fun _ => pkR_7 _ _ _ _ _ _ _ _ _ _ _) (fun _ => rfl) (fun _ => fl10 _ _ _ _ _ _ _ _ _ _) rfl rfl rfl rfl rfl (Nat.le_of_ble_eq_true rfl) dL_law_1983 ⟨hk9m, hn9m⟩ (fun r_8 _ h_7 => ?_)
    subst h_7
    refine v_st (st' := [.int (iI (1))]) rfl ?_
    refine v_iload C dL_law_1986 1 rfl ?_
    refine v_icmp_eq C 1993 dL_law_1988 (by decide) (b31_lit _ rfl) (b31_lit _ rfl) (fun _ => ?_) (fun h => absurd h (by decide))
    refine v_iload C dL_law_1993 1 rfl ?_
    refine v_if_ne C 2017 dL_law_1995 (by decide) (b31_lit _ rfl) (fun _ => ?_) (fun h => absurd h (by decide))
    refine v_goto C 2209 dL_law_2017 (by decide) ?_
    refine v_lv (lv' := [(0, .ref (b)), (1, .ref (ma)), (2, .ref (mm)), (3, .ref (oa)), (4, .ref (od)), (5, .int (iI ((4 * j : Nat) : Int)))]) [2, 3, 4, 5, 6, 7] rfl ?_
    exact kk kinds tgs first second vals qs hds deed item side picked qcnt An ris qi qo T Tr Tm Nw Kw ni bc cm cn qc 1 fo fd hR
  obtain ⟨y0, rfl⟩ : ∃ i : Nat, y = (i : Int) := ⟨y.toNat, by omega⟩
  have hy0 : y0 < cm := by omega
  refine v_aload_n C dL_law_1945 rfl 1 rfl ?_
  refine v_aload_n C dL_law_1946 rfl 0 rfl ?_
  refine v_iload C dL_law_1947 5 rfl ?_
  refine v_iconst C (z := 1) dL_law_1949 ?_
  refine v_iadd C dL_law_1950 ?_
  rw [show (((4 * j : Nat) : Int)) + 1 = (((4 * j) + 1 : Nat) : Int) from rfl]
  refine v_sld K9 ((4 * j) + 1) rfl (by omega) hxe dL_law_1951 ?_
  refine v_aload_n C dL_law_1952 rfl 0 rfl ?_
  refine v_iload C dL_law_1953 5 rfl ?_
  refine v_iconst C (z := 2) dL_law_1955 ?_
  refine v_iadd C dL_law_1956 ?_
  rw [show (((4 * j : Nat) : Int)) + 2 = (((4 * j) + 2 : Nat) : Int) from rfl]
  refine v_sld K9 ((4 * j) + 2) rfl (by omega) hye dL_law_1957 ?_
  refine v_aload_n C dL_law_1958 rfl 3 rfl ?_
  refine v_lwI C hX (As := [.ref (ma), .int (iI ((x0 : Nat) : Int)), .int (iI ((y0 : Nat) : Int)), .ref (oa)]) (kL_isBroken_ok l g sx hst (ma := ma) (m1 := m1) (m2 := m2) (m3 := m3) (la := la) (tp := tp) (qa := qa) (sa := sa) (ta := ta) (ua := ua) (kinds := kinds) (tgs := tgs) (hds := hds) (ni := ni) (bc := bc) (l1 := l1) (l2 := l2) (l3 := l3) (l4 := l4) (l5 := l5) (l6 := l6) (l7 := l7) (l8 := l8) (l9 := l9) (deed := deed) (item := item) (side := side) (picked := picked) (qcnt := qcnt) (An := An) (first := first) (second := second) (cm := cm) (tv := tv) (tr := tr) (vals := vals) (ris := ris) (cn := cn) (q1 := q1) (q2 := q2) (q3 := q3) (qi := qi) (qo := qo) (qs := qs) (qc := qc) (tlo := tlo) (thi := thi) (T := T) (oa := oa) (fo := fo) (x := ((x0 : Nat) : Int)) (y := ((y0 : Nat) : Int)) ⟨by omega, by omega⟩ ⟨by omega, by omega⟩ hcm hqc hcn hqb hv (by omega)) (vx_cwSW 4 C.2.2.2.2.1 gL_law_L_isBroken rfl rfl rfl (by decide +kernel) ⟨Nat.le_of_ble_eq_true rfl, Nat.le_of_ble_eq_true rfl⟩) [wMA g ma m1 m2 m3 la tp qa sa ta ua kinds ni hds bc tgs, wLog g la l1 l2 l3 l4 l5 l6 l7 l8 l9 deed first second item side picked qcnt An An cm, wPal g tp tv tr vals ris cn, wQuo g qa q1 q2 q3 qi qo qs qc, wScr g sa la qa, wTab g ta tp tlo thi T T, wTab g ua tp ulo uhi Tr Tr, wMM g mm b1 b2 b3 b4 b5 b6 b7 b8 b9 b10 b11 b12 b13 b14 b15 b16 b17 kinds ni cm first second An An Tm Tm bc hds tgs qc qi qo qs cn vals Nw Nw Kw Kw cd, rO g oa fo, rD g od fd] [0, 1, 2, 3, 5, 8] [4, 6, 7, 9] [] (fun _ => [wMA g ma m1 m2 m3 la tp qa sa ta ua kinds ni hds bc tgs, wLog g la l1 l2 l3 l4 l5 l6 l7 l8 l9 deed first second item side picked qcnt An An cm, wPal g tp tv tr vals ris cn, wQuo g qa q1 q2 q3 qi qo qs qc, wScr g sa la qa, wTab g ta tp tlo thi T T, wTab g ua tp ulo uhi Tr Tr, wMM g mm b1 b2 b3 b4 b5 b6 b7 b8 b9 b10 b11 b12 b13 b14 b15 b16 b17 kinds ni cm first second An An Tm Tm bc hds tgs qc qi qo qs cn vals Nw Nw Kw Kw cd, rO g oa ((vp_updL fo 0 (bL (decide (qst vals cn (qs x0) (T (12 * y0 + qi x0)) (T (12 * y0 + qo x0)) = 1))))), rD g od fd]) (fun _ => wMA g ma m1 m2 m3 la tp qa sa ta ua kinds ni hds bc tgs ++ (wLog g la l1 l2 l3 l4 l5 l6 l7 l8 l9 deed first second item side picked qcnt An An cm ++ (wPal g tp tv tr vals ris cn ++ (wQuo g qa q1 q2 q3 qi qo qs qc ++ (wScr g sa la qa ++ (wTab g ta tp tlo thi T T ++ (wTab g ua tp ulo uhi Tr Tr ++ (wMM g mm b1 b2 b3 b4 b5 b6 b7 b8 b9 b10 b11 b12 b13 b14 b15 b16 b17 kinds ni cm first second An An Tm Tm bc hds tgs qc qi qo qs cn vals Nw Nw Kw Kw cd ++ (rO g oa ((vp_updL fo 0 (bL (decide (qst vals cn (qs x0) (T (12 * y0 + qi x0)) (T (12 * y0 + qo x0)) = 1))))) ++ (rD g od fd ++ ([]))))))))))) okP_0_1_2_3_5_8 (fl10 _ _ _ _ _ _ _ _ _ _).symm (pkC_0_1_2_3_5_8 _ _ _ _ _ _ _ _ _ _) (fun _ => pkC_0_1_2_3_5_8 _ _ _ _ _ _ _ _ _ _) (fun _ => pkR_0_1_2_3_5_8 _ _ _ _ _ _ _ _ _ _ _ _ _ _ _ _) (fun _ => rfl) (fun _ => fl10 _ _ _ _ _ _ _ _ _ _) rfl rfl (Nat.le_of_ble_eq_true rfl) dL_law_1959 ⟨hk9r, hn9r⟩ (fun r u hr9 => ?_)
  subst hr9
  refine v_istore C [(6, .int (iI (0))), (0, .ref (b)), (1, .ref (ma)), (2, .ref (mm)), (3, .ref (oa)), (4, .ref (od)), (5, .int (iI ((4 * j : Nat) : Int)))] dL_law_1962 (by decide) rfl ?_
  refine v_aload_n C dL_law_1964 rfl 3 rfl ?_
  refine v_aload_n C dL_law_1965 rfl 1 rfl ?_
  refine v_iload C dL_law_1966 6 rfl ?_
  refine v_iconst C (z := 1) dL_law_1968 ?_
  refine v_iadd C dL_law_1969 ?_
  rw [show (((4 * j : Nat) : Int)) + 1 = (((4 * j) + 1 : Nat) : Int) from rfl]
  refine v_sld K9 ((4 * j) + 1) rfl (by omega) hxe dL_law_1970 ?_
  refine v_aload_n C dL_law_1971 rfl 1 rfl ?_
  refine v_iload C dL_law_1972 6 rfl ?_
  refine v_iconst C (z := 2) dL_law_1974 ?_
  refine v_iadd C dL_law_1975 ?_
  rw [show (((4 * j : Nat) : Int)) + 2 = (((4 * j) + 2 : Nat) : Int) from rfl]
  refine v_sld K9 ((4 * j) + 2) rfl (by omega) hye dL_law_1976 ?_
  refine v_invVI C (As := [.int (iI ((x0 : Nat) : Int)), .int (iI ((y0 : Nat) : Int))]) (q0 := 0) (ci := 6) (kX6_isBroken_ok l g (mm := mm) (b1 := b1) (b2 := b2) (b3 := b3) (b4 := b4) (b5 := b5) (b6 := b6) (b7 := b7) (b8 := b8) (b9 := b9) (b10 := b10) (b11 := b11) (b12 := b12) (b13 := b13) (b14 := b14) (b15 := b15) (b16 := b16) (b17 := b17) (kinds := kinds) (tgs := tgs) (first := first) (second := second) (vals := vals) (qs := qs) (hds := hds) (An := An) (qi := qi) (qo := qo) (Tm := Tm) (Nw := Nw) (Kw := Kw) (ni := ni) (bc := bc) (cm := cm) (cn := cn) (qc := qc) (cd := cd) (ris := ris) (x0 := x0) (y0 := y0) hI (by omega) (by omega)) (cwV 2 C.2.2.2.2.1 gL_law_X6_isBroken rfl rfl rfl (by decide +kernel) ⟨Nat.le_of_ble_eq_true rfl, Nat.le_of_ble_eq_true rfl⟩) [wMA g ma m1 m2 m3 la tp qa sa ta ua kinds ni hds bc tgs, wLog g la l1 l2 l3 l4 l5 l6 l7 l8 l9 deed first second item side picked qcnt An An cm, wPal g tp tv tr vals ris cn, wQuo g qa q1 q2 q3 qi qo qs qc, wScr g sa la qa, wTab g ta tp tlo thi T T, wTab g ua tp ulo uhi Tr Tr, wMM g mm b1 b2 b3 b4 b5 b6 b7 b8 b9 b10 b11 b12 b13 b14 b15 b16 b17 kinds ni cm first second An An Tm Tm bc hds tgs qc qi qo qs cn vals Nw Nw Kw Kw cd, rO g oa ((vp_updL fo 0 (bL (decide (qst vals cn (qs x0) (T (12 * y0 + qi x0)) (T (12 * y0 + qo x0)) = 1))))), rD g od fd] [7] [0, 1, 2, 3, 4, 5, 6, 8, 9] [] (fun _ => [wMA g ma m1 m2 m3 la tp qa sa ta ua kinds ni hds bc tgs, wLog g la l1 l2 l3 l4 l5 l6 l7 l8 l9 deed first second item side picked qcnt An An cm, wPal g tp tv tr vals ris cn, wQuo g qa q1 q2 q3 qi qo qs qc, wScr g sa la qa, wTab g ta tp tlo thi T T, wTab g ua tp ulo uhi Tr Tr, wMM g mm b1 b2 b3 b4 b5 b6 b7 b8 b9 b10 b11 b12 b13 b14 b15 b16 b17 kinds ni cm first second An An Tm Tm bc hds tgs qc qi qo qs cn vals Nw Nw Kw Kw 0, rO g oa ((vp_updL fo 0 (bL (decide (qst vals cn (qs x0) (T (12 * y0 + qi x0)) (T (12 * y0 + qo x0)) = 1))))), rD g od fd]) (fun _ => wMA g ma m1 m2 m3 la tp qa sa ta ua kinds ni hds bc tgs ++ (wLog g la l1 l2 l3 l4 l5 l6 l7 l8 l9 deed first second item side picked qcnt An An cm ++ (wPal g tp tv tr vals ris cn ++ (wQuo g qa q1 q2 q3 qi qo qs qc ++ (wScr g sa la qa ++ (wTab g ta tp tlo thi T T ++ (wTab g ua tp ulo uhi Tr Tr ++ (wMM g mm b1 b2 b3 b4 b5 b6 b7 b8 b9 b10 b11 b12 b13 b14 b15 b16 b17 kinds ni cm first second An An Tm Tm bc hds tgs qc qi qo qs cn vals Nw Nw Kw Kw 0 ++ (rO g oa ((vp_updL fo 0 (bL (decide (qst vals cn (qs x0) (T (12 * y0 + qi x0)) (T (12 * y0 + qo x0)) = 1))))) ++ (rD g od fd ++ ([]))))))))))) okP_7 (fl10 _ _ _ _ _ _ _ _ _ _).symm (pkC_7 _ _ _ _ _ _ _ _ _ _) (fun _ => pkC_7 _ _ _ _ _ _ _ _ _ _) (fun _ => pkR_7 _ _ _ _ _ _ _ _ _ _ _) (fun _ => rfl) (fun _ => fl10 _ _ _ _ _ _ _ _ _ _) rfl rfl rfl rfl rfl (Nat.le_of_ble_eq_true rfl) dL_law_1977 ⟨hk9m, hn9m⟩ (fun r_10 _ h_9 => ?_)
  subst h_9
  refine v_istore C [(7, .int (iI (bZ (decide (qst vals cn (qs x0) (Tm (12 * y0 + qi x0)) (Tm (12 * y0 + qo x0)) = 1))))), (6, .int (iI (0))), (0, .ref (b)), (1, .ref (ma)), (2, .ref (mm)), (3, .ref (oa)), (4, .ref (od)), (5, .int (iI ((4 * j : Nat) : Int)))] dL_law_1980 (by decide) rfl ?_
  refine v_aload_n C dL_law_1982 rfl 4 rfl ?_
  refine v_invVI C (As := []) (q0 := 0) (ci := 6) (kX6_thrown l g (mm := mm) (b1 := b1) (b2 := b2) (b3 := b3) (b4 := b4) (b5 := b5) (b6 := b6) (b7 := b7) (b8 := b8) (b9 := b9) (b10 := b10) (b11 := b11) (b12 := b12) (b13 := b13) (b14 := b14) (b15 := b15) (b16 := b16) (b17 := b17) (kinds := kinds) (tgs := tgs) (first := first) (second := second) (vals := vals) (qs := qs) (hds := hds) (An := An) (qi := qi) (qo := qo) (Tm := Tm) (Nw := Nw) (Kw := Kw) (ni := ni) (bc := bc) (cm := cm) (cn := cn) (qc := qc) (cd := 0) (ris := ris)  ) (cwV 0 C.2.2.2.2.1 gL_law_X6_thrown rfl rfl rfl (by decide +kernel) ⟨Nat.le_of_ble_eq_true rfl, Nat.le_of_ble_eq_true rfl⟩) [wMA g ma m1 m2 m3 la tp qa sa ta ua kinds ni hds bc tgs, wLog g la l1 l2 l3 l4 l5 l6 l7 l8 l9 deed first second item side picked qcnt An An cm, wPal g tp tv tr vals ris cn, wQuo g qa q1 q2 q3 qi qo qs qc, wScr g sa la qa, wTab g ta tp tlo thi T T, wTab g ua tp ulo uhi Tr Tr, wMM g mm b1 b2 b3 b4 b5 b6 b7 b8 b9 b10 b11 b12 b13 b14 b15 b16 b17 kinds ni cm first second An An Tm Tm bc hds tgs qc qi qo qs cn vals Nw Nw Kw Kw 0, rO g oa ((vp_updL fo 0 (bL (decide (qst vals cn (qs x0) (T (12 * y0 + qi x0)) (T (12 * y0 + qo x0)) = 1))))), rD g od fd] [7] [0, 1, 2, 3, 4, 5, 6, 8, 9] [] (fun _ => [wMA g ma m1 m2 m3 la tp qa sa ta ua kinds ni hds bc tgs, wLog g la l1 l2 l3 l4 l5 l6 l7 l8 l9 deed first second item side picked qcnt An An cm, wPal g tp tv tr vals ris cn, wQuo g qa q1 q2 q3 qi qo qs qc, wScr g sa la qa, wTab g ta tp tlo thi T T, wTab g ua tp ulo uhi Tr Tr, wMM g mm b1 b2 b3 b4 b5 b6 b7 b8 b9 b10 b11 b12 b13 b14 b15 b16 b17 kinds ni cm first second An An Tm Tm bc hds tgs qc qi qo qs cn vals Nw Nw Kw Kw 0, rO g oa ((vp_updL fo 0 (bL (decide (qst vals cn (qs x0) (T (12 * y0 + qi x0)) (T (12 * y0 + qo x0)) = 1))))), rD g od fd]) (fun _ => wMA g ma m1 m2 m3 la tp qa sa ta ua kinds ni hds bc tgs ++ (wLog g la l1 l2 l3 l4 l5 l6 l7 l8 l9 deed first second item side picked qcnt An An cm ++ (wPal g tp tv tr vals ris cn ++ (wQuo g qa q1 q2 q3 qi qo qs qc ++ (wScr g sa la qa ++ (wTab g ta tp tlo thi T T ++ (wTab g ua tp ulo uhi Tr Tr ++ (wMM g mm b1 b2 b3 b4 b5 b6 b7 b8 b9 b10 b11 b12 b13 b14 b15 b16 b17 kinds ni cm first second An An Tm Tm bc hds tgs qc qi qo qs cn vals Nw Nw Kw Kw 0 ++ (rO g oa ((vp_updL fo 0 (bL (decide (qst vals cn (qs x0) (T (12 * y0 + qi x0)) (T (12 * y0 + qo x0)) = 1))))) ++ (rD g od fd ++ ([]))))))))))) okP_7 (fl10 _ _ _ _ _ _ _ _ _ _).symm (pkC_7 _ _ _ _ _ _ _ _ _ _) (fun _ => pkC_7 _ _ _ _ _ _ _ _ _ _) (fun _ => pkR_7 _ _ _ _ _ _ _ _ _ _ _) (fun _ => rfl) (fun _ => fl10 _ _ _ _ _ _ _ _ _ _) rfl rfl rfl rfl rfl (Nat.le_of_ble_eq_true rfl) dL_law_1983 ⟨hk9m, hn9m⟩ (fun r_12 _ h_11 => ?_)
  subst h_11
  refine v_st (st' := [.int (iI (0))]) rfl ?_
  refine v_iload C dL_law_1986 1 rfl ?_
  refine v_icmp_eq C 1993 dL_law_1988 (by decide) (b31_lit _ rfl) (b31_lit _ rfl) (fun _ => ?_) (fun h => absurd h (by decide))
  refine v_iload C dL_law_1993 1 rfl ?_
  refine v_if_ne C 2017 dL_law_1995 (by decide) (b31_lit _ rfl) (fun h => absurd h (by decide)) (fun _ => ?_)
  refine v_aload_n C dL_law_1998 rfl 5 rfl ?_
  refine v_iconst C (z := 0) dL_law_1999 ?_
  refine v_lald C 46 0 rfl rfl (by decide) (by decide) dL_law_2000 ?_
  refine v_st (st' := [.long ((bL (decide (qst vals cn (qs x0) (T (12 * y0 + qi x0)) (T (12 * y0 + qo x0)) = 1))))]) rfl ?_
  refine v_iload C dL_law_2001 0 rfl ?_
  refine v_ifz_eq C 2010 dL_law_2003 (by decide) (fun c_13 => ?_) (fun c_13 => ?_)
  ·
    refine v_lconst C (v := lN 0) dL_law_2010 rfl ?_
    refine v_lcmp C dL_law_2011 ?_
    refine v_ifl_eq C 2017 dL_law_2012 (by decide) (fun c_14 => ?_) (fun c_14 => ?_)
    ·
      refine v_goto C 2209 dL_law_2017 (by decide) ?_
      refine v_lv (lv' := [(0, .ref (b)), (1, .ref (ma)), (2, .ref (mm)), (3, .ref (oa)), (4, .ref (od)), (5, .int (iI ((4 * j : Nat) : Int)))]) [2, 3, 4, 5, 6, 7] rfl ?_
      exact kk kinds tgs first second vals qs hds deed item side picked qcnt An ris qi qo T Tr Tm Nw Kw ni bc cm cn qc 0 ((vp_updL fo 0 (bL (decide (qst vals cn (qs x0) (T (12 * y0 + qi x0)) (T (12 * y0 + qo x0)) = 1))))) fd hR
    ·
      exact absurd (show bL (decide (qst vals cn (qs x0) (T (12 * y0 + qi x0)) (T (12 * y0 + qo x0)) = 1)) = lN 0 by rw [show bL (decide (qst vals cn (qs x0) (T (12 * y0 + qi x0)) (T (12 * y0 + qo x0)) = 1)) = _ from congrArg bL (congrArg (fun n : Nat => decide (n = 1)) (hR.qu hx0 hy0)), c_13]; rfl) c_14
  ·
    refine v_lconst C (v := lN 1) dL_law_2006 rfl ?_
    refine v_goto C 2011 dL_law_2007 (by decide) ?_
    refine v_lcmp C dL_law_2011 ?_
    refine v_ifl_eq C 2017 dL_law_2012 (by decide) (fun c_15 => ?_) (fun c_15 => ?_)
    ·
      refine v_goto C 2209 dL_law_2017 (by decide) ?_
      refine v_lv (lv' := [(0, .ref (b)), (1, .ref (ma)), (2, .ref (mm)), (3, .ref (oa)), (4, .ref (od)), (5, .int (iI ((4 * j : Nat) : Int)))]) [2, 3, 4, 5, 6, 7] rfl ?_
      exact kk kinds tgs first second vals qs hds deed item side picked qcnt An ris qi qo T Tr Tm Nw Kw ni bc cm cn qc 0 ((vp_updL fo 0 (bL (decide (qst vals cn (qs x0) (T (12 * y0 + qi x0)) (T (12 * y0 + qo x0)) = 1))))) fd hR
    ·
      exact absurd (show bL (decide (qst vals cn (qs x0) (T (12 * y0 + qi x0)) (T (12 * y0 + qo x0)) = 1)) = lN 1 by rw [show bL (decide (qst vals cn (qs x0) (T (12 * y0 + qi x0)) (T (12 * y0 + qo x0)) = 1)) = _ from congrArg bL (congrArg (fun n : Nat => decide (n = 1)) (hR.qu hx0 hy0)), c_13]; rfl) c_15
