set_option maxHeartbeats 16000000 in
set_option maxRecDepth 100000 in
theorem lc_quote {p : Program} {l : Launch} {e : Env} {s : State} {m : MethodId} {below : List Frame} {meth : Method} {c : Code} {g : vG} {A : Nat → Prop} {Q : State → Prop} {b : Nat} {sx : Nat → Nat} {L : Nat} {xs : Nat → Int32} {k n j : Nat} {ma m1 m2 m3 la l1 l2 l3 l4 l5 l6 l7 l8 l9 tp tv tr qa q1 q2 q3 sa ta tlo thi ua ulo uhi mm b1 b2 b3 b4 b5 b6 b7 b8 b9 b10 b11 b12 b13 b14 b15 b16 b17 oa od : Nat} {kinds tgs first second vals qs : Nat → Int} {hds deed item side picked qcnt An ris qi qo T Tr Tm Nw Kw : Nat → Nat} {ni bc cm cn qc cd : Nat} {fo : Nat → Int64} {fd : Nat → UInt64} (K9 : LCx p l s m c g A sx b L xs) (hj : 4 * j + 4 ≤ L) (hk9 : k + 1 ≤ 1093) (hn9 : n + 6 ≤ 17438) (hR : Rel kinds tgs first second vals qs hds deed item side picked qcnt An ris qi qo T Tr Tm ni bc cm cn qc) (kk : LK p l e s m below meth c g A Q b (k + 1) (n + 6) j ma m1 m2 m3 la l1 l2 l3 l4 l5 l6 l7 l8 l9 tp tv tr qa q1 q2 q3 sa ta tlo thi ua ulo uhi mm b1 b2 b3 b4 b5 b6 b7 b8 b9 b10 b11 b12 b13 b14 b15 b16 b17 oa od) : Vx p l e room_1 s m #[Value.ref b] below meth c g A 9 Q k n (wMA g ma m1 m2 m3 la tp qa sa ta ua kinds ni hds bc tgs ++ (wLog g la l1 l2 l3 l4 l5 l6 l7 l8 l9 deed first second item side picked qcnt An An cm ++ (wPal g tp tv tr vals ris cn ++ (wQuo g qa q1 q2 q3 qi qo qs qc ++ (wScr g sa la qa ++ (wTab g ta tp tlo thi T T ++ (wTab g ua tp ulo uhi Tr Tr ++ (wMM g mm b1 b2 b3 b4 b5 b6 b7 b8 b9 b10 b11 b12 b13 b14 b15 b16 b17 kinds ni cm first second An An Tm Tm bc hds tgs qc qi qo qs cn vals Nw Nw Kw Kw cd ++ (rO g oa fo ++ (rD g od fd ++ ([]))))))))))) [(0, .ref (b)), (1, .ref (ma)), (2, .ref (mm)), (3, .ref (oa)), (4, .ref (od)), (5, .int (iI ((4 * j : Nat) : Int)))] 1865 [] := by
  have hk9r : k + 1 ≤ room_1.cells := hk9
  have hn9r : n + 6 ≤ room_1.slots := hn9
  have hk9m : k + 1 + 0 ≤ room_1.cells := hk9
  have hn9m : n + 6 + 0 ≤ room_1.slots := hn9
  obtain ⟨C, hst, hX, hxx, hbl, hbA, hL9⟩ := id K9
  have hI := hR.1
  obtain ⟨hni, hbc1, hbc, hcm1, hcm, hcn1, hnm, hqc, hhd, htg, hf, hs, hfc, hsc, hAn, hTm, hao, hpal, hqb, hqi, htk, hkd⟩ := id hI
  obtain ⟨⟨ct1, ct0, hlk, hlq, hrw, hT9⟩, hTr, hTT, hzz⟩ := id hR.2
  obtain ⟨⟨-, hcn⟩, -, -, hrc, -, -, hv, hris9⟩ := id hpal
  obtain ⟨x, hxe⟩ : ∃ x : Int, (xs (4 * j + 1)).toInt = x := ⟨_, rfl⟩
  have hx : b31 x := hxe ▸ iI_bd _
  have hx1 := hx.1
  have hx2 := hx.2
  obtain ⟨y, hye⟩ : ∃ x : Int, (xs (4 * j + 2)).toInt = x := ⟨_, rfl⟩
  have hy : b31 y := hye ▸ iI_bd _
  have hy1 := hy.1
  have hy2 := hy.2
  obtain ⟨z, hze⟩ : ∃ x : Int, (xs (4 * j + 3)).toInt = x := ⟨_, rfl⟩
  have hz : b31 z := hze ▸ iI_bd _
  have hz1 := hz.1
  have hz2 := hz.2
  by_cases hrx : 0 ≤ x ∧ x < ((ni : Nat) : Int)
  rotate_left
  ·
    refine v_aload_n C dL_law_1865 rfl 1 rfl ?_
    refine v_aload_n C dL_law_1866 rfl 0 rfl ?_
    refine v_iload C dL_law_1867 5 rfl ?_
    refine v_iconst C (z := 1) dL_law_1869 ?_
    refine v_iadd C dL_law_1870 ?_
    rw [show (((4 * j : Nat) : Int)) + 1 = (((4 * j) + 1 : Nat) : Int) from rfl]
    refine v_sld K9 ((4 * j) + 1) rfl (by omega) hxe dL_law_1871 ?_
    refine v_aload_n C dL_law_1872 rfl 0 rfl ?_
    refine v_iload C dL_law_1873 5 rfl ?_
    refine v_iconst C (z := 2) dL_law_1875 ?_
    refine v_iadd C dL_law_1876 ?_
    rw [show (((4 * j : Nat) : Int)) + 2 = (((4 * j) + 2 : Nat) : Int) from rfl]
    refine v_sld K9 ((4 * j) + 2) rfl (by omega) hye dL_law_1877 ?_
    refine v_aload_n C dL_law_1878 rfl 0 rfl ?_
    refine v_iload C dL_law_1879 5 rfl ?_
    refine v_iconst C (z := 3) dL_law_1881 ?_
    refine v_iadd C dL_law_1882 ?_
    rw [show (((4 * j : Nat) : Int)) + 3 = (((4 * j) + 3 : Nat) : Int) from rfl]
    refine v_sld K9 ((4 * j) + 3) rfl (by omega) hze dL_law_1883 ?_
    refine v_aload_n C dL_law_1884 rfl 3 rfl ?_
    refine v_lwI C hX (As := [.ref (ma), .int (iI (x)), .int (iI (y)), .int (iI (z)), .ref (oa)]) (kL_quote_1 l g sx hst (ma := ma) (m1 := m1) (m2 := m2) (m3 := m3) (la := la) (tp := tp) (qa := qa) (sa := sa) (ta := ta) (ua := ua) (kinds := kinds) (tgs := tgs) (hds := hds) (ni := ni) (bc := bc) (q1 := q1) (q2 := q2) (q3 := q3) (qi := qi) (qo := qo) (qs := qs) (qc := qc) (oa := oa) (fo := fo) (x := x) (y := y) (z := z) hx hy hz hni hqc (by omega)) (vx_cwSW 5 C.2.2.2.2.1 gL_law_L_quote rfl rfl rfl (by decide +kernel) ⟨Nat.le_of_ble_eq_true rfl, Nat.le_of_ble_eq_true rfl⟩) [wMA g ma m1 m2 m3 la tp qa sa ta ua kinds ni hds bc tgs, wLog g la l1 l2 l3 l4 l5 l6 l7 l8 l9 deed first second item side picked qcnt An An cm, wPal g tp tv tr vals ris cn, wQuo g qa q1 q2 q3 qi qo qs qc, wScr g sa la qa, wTab g ta tp tlo thi T T, wTab g ua tp ulo uhi Tr Tr, wMM g mm b1 b2 b3 b4 b5 b6 b7 b8 b9 b10 b11 b12 b13 b14 b15 b16 b17 kinds ni cm first second An An Tm Tm bc hds tgs qc qi qo qs cn vals Nw Nw Kw Kw cd, rO g oa fo, rD g od fd] [0, 3, 8] [1, 2, 4, 5, 6, 7, 9] [] (fun _ => [wMA g ma m1 m2 m3 la tp qa sa ta ua kinds ni hds bc tgs, wLog g la l1 l2 l3 l4 l5 l6 l7 l8 l9 deed first second item side picked qcnt An An cm, wPal g tp tv tr vals ris cn, wQuo g qa q1 q2 q3 qi qo qs qc, wScr g sa la qa, wTab g ta tp tlo thi T T, wTab g ua tp ulo uhi Tr Tr, wMM g mm b1 b2 b3 b4 b5 b6 b7 b8 b9 b10 b11 b12 b13 b14 b15 b16 b17 kinds ni cm first second An An Tm Tm bc hds tgs qc qi qo qs cn vals Nw Nw Kw Kw cd, rO g oa fo, rD g od fd]) (fun _ => wMA g ma m1 m2 m3 la tp qa sa ta ua kinds ni hds bc tgs ++ (wLog g la l1 l2 l3 l4 l5 l6 l7 l8 l9 deed first second item side picked qcnt An An cm ++ (wPal g tp tv tr vals ris cn ++ (wQuo g qa q1 q2 q3 qi qo qs qc ++ (wScr g sa la qa ++ (wTab g ta tp tlo thi T T ++ (wTab g ua tp ulo uhi Tr Tr ++ (wMM g mm b1 b2 b3 b4 b5 b6 b7 b8 b9 b10 b11 b12 b13 b14 b15 b16 b17 kinds ni cm first second An An Tm Tm bc hds tgs qc qi qo qs cn vals Nw Nw Kw Kw cd ++ (rO g oa fo ++ (rD g od fd ++ ([]))))))))))) okP_0_3_8 (fl10 _ _ _ _ _ _ _ _ _ _).symm (pkC_0_3_8 _ _ _ _ _ _ _ _ _ _) (fun _ => pkC_0_3_8 _ _ _ _ _ _ _ _ _ _) (fun _ => pkR_0_3_8 _ _ _ _ _ _ _ _ _ _ _ _ _) (fun _ => rfl) (fun _ => fl10 _ _ _ _ _ _ _ _ _ _) rfl rfl (Nat.le_of_ble_eq_true rfl) dL_law_1885 ⟨hk9r, hn9r⟩ (fun r u hr9 => ?_)
    subst hr9
    refine v_istore C [(6, .int (iI (1))), (0, .ref (b)), (1, .ref (ma)), (2, .ref (mm)), (3, .ref (oa)), (4, .ref (od)), (5, .int (iI ((4 * j : Nat) : Int)))] dL_law_1888 (by decide) rfl ?_
    refine v_aload_n C dL_law_1890 rfl 3 rfl ?_
    refine v_aload_n C dL_law_1891 rfl 1 rfl ?_
    refine v_iload C dL_law_1892 6 rfl ?_
    refine v_iconst C (z := 1) dL_law_1894 ?_
    refine v_iadd C dL_law_1895 ?_
    rw [show (((4 * j : Nat) : Int)) + 1 = (((4 * j) + 1 : Nat) : Int) from rfl]
    refine v_sld K9 ((4 * j) + 1) rfl (by omega) hxe dL_law_1896 ?_
    refine v_aload_n C dL_law_1897 rfl 1 rfl ?_
    refine v_iload C dL_law_1898 6 rfl ?_
    refine v_iconst C (z := 2) dL_law_1900 ?_
    refine v_iadd C dL_law_1901 ?_
    rw [show (((4 * j : Nat) : Int)) + 2 = (((4 * j) + 2 : Nat) : Int) from rfl]
    refine v_sld K9 ((4 * j) + 2) rfl (by omega) hye dL_law_1902 ?_
    refine v_aload_n C dL_law_1903 rfl 1 rfl ?_
    refine v_iload C dL_law_1904 6 rfl ?_
    refine v_iconst C (z := 3) dL_law_1906 ?_
    refine v_iadd C dL_law_1907 ?_
    rw [show (((4 * j : Nat) : Int)) + 3 = (((4 * j) + 3 : Nat) : Int) from rfl]
    refine v_sld K9 ((4 * j) + 3) rfl (by omega) hze dL_law_1908 ?_
    refine v_invVI C (As := [.int (iI (x)), .int (iI (y)), .int (iI (z))]) (q0 := 0) (ci := 6) (kX6_quote_a l g (mm := mm) (b1 := b1) (b2 := b2) (b3 := b3) (b4 := b4) (b5 := b5) (b6 := b6) (b7 := b7) (b8 := b8) (b9 := b9) (b10 := b10) (b11 := b11) (b12 := b12) (b13 := b13) (b14 := b14) (b15 := b15) (b16 := b16) (b17 := b17) (kinds := kinds) (tgs := tgs) (first := first) (second := second) (vals := vals) (qs := qs) (hds := hds) (An := An) (qi := qi) (qo := qo) (Tm := Tm) (Nw := Nw) (Kw := Kw) (ni := ni) (bc := bc) (cm := cm) (cn := cn) (qc := qc) (cd := cd) (ris := ris) (x := x) (y := y) (z := z) hI ⟨by omega, by omega⟩ (by omega) ⟨by omega, by omega⟩ ⟨by omega, by omega⟩) (cwV 3 C.2.2.2.2.1 gL_law_X6_quote rfl rfl rfl (by decide +kernel) ⟨Nat.le_of_ble_eq_true rfl, Nat.le_of_ble_eq_true rfl⟩) [wMA g ma m1 m2 m3 la tp qa sa ta ua kinds ni hds bc tgs, wLog g la l1 l2 l3 l4 l5 l6 l7 l8 l9 deed first second item side picked qcnt An An cm, wPal g tp tv tr vals ris cn, wQuo g qa q1 q2 q3 qi qo qs qc, wScr g sa la qa, wTab g ta tp tlo thi T T, wTab g ua tp ulo uhi Tr Tr, wMM g mm b1 b2 b3 b4 b5 b6 b7 b8 b9 b10 b11 b12 b13 b14 b15 b16 b17 kinds ni cm first second An An Tm Tm bc hds tgs qc qi qo qs cn vals Nw Nw Kw Kw cd, rO g oa fo, rD g od fd] [7] [0, 1, 2, 3, 4, 5, 6, 8, 9] [] (fun _ => [wMA g ma m1 m2 m3 la tp qa sa ta ua kinds ni hds bc tgs, wLog g la l1 l2 l3 l4 l5 l6 l7 l8 l9 deed first second item side picked qcnt An An cm, wPal g tp tv tr vals ris cn, wQuo g qa q1 q2 q3 qi qo qs qc, wScr g sa la qa, wTab g ta tp tlo thi T T, wTab g ua tp ulo uhi Tr Tr, wMM g mm b1 b2 b3 b4 b5 b6 b7 b8 b9 b10 b11 b12 b13 b14 b15 b16 b17 kinds ni cm first second An An Tm Tm bc hds tgs qc qi qo qs cn vals Nw Nw Kw Kw 1, rO g oa fo, rD g od fd]) (fun _ => wMA g ma m1 m2 m3 la tp qa sa ta ua kinds ni hds bc tgs ++ (wLog g la l1 l2 l3 l4 l5 l6 l7 l8 l9 deed first second item side picked qcnt An An cm ++ (wPal g tp tv tr vals ris cn ++ (wQuo g qa q1 q2 q3 qi qo qs qc ++ (wScr g sa la qa ++ (wTab g ta tp tlo thi T T ++ (wTab g ua tp ulo uhi Tr Tr ++ (wMM g mm b1 b2 b3 b4 b5 b6 b7 b8 b9 b10 b11 b12 b13 b14 b15 b16 b17 kinds ni cm first second An An Tm Tm bc hds tgs qc qi qo qs cn vals Nw Nw Kw Kw 1 ++ (rO g oa fo ++ (rD g od fd ++ ([]))))))))))) okP_7 (fl10 _ _ _ _ _ _ _ _ _ _).symm (pkC_7 _ _ _ _ _ _ _ _ _ _) (fun _ => pkC_7 _ _ _ _ _ _ _ _ _ _) (fun _ => pkR_7 _ _ _ _ _ _ _ _ _ _ _) (fun _ => rfl) (fun _ => fl10 _ _ _ _ _ _ _ _ _ _) rfl rfl rfl rfl rfl (Nat.le_of_ble_eq_true rfl) dL_law_1909 ⟨hk9m, hn9m⟩ (fun r_2 _ h_1 => ?_)
    refine v_istore C [(7, .int (r_2)), (6, .int (iI (1))), (0, .ref (b)), (1, .ref (ma)), (2, .ref (mm)), (3, .ref (oa)), (4, .ref (od)), (5, .int (iI ((4 * j : Nat) : Int)))] dL_law_1912 (by decide) rfl ?_
    refine v_aload_n C dL_law_1914 rfl 4 rfl ?_
    refine v_invVI C (As := []) (q0 := 0) (ci := 6) (kX6_thrown l g (mm := mm) (b1 := b1) (b2 := b2) (b3 := b3) (b4 := b4) (b5 := b5) (b6 := b6) (b7 := b7) (b8 := b8) (b9 := b9) (b10 := b10) (b11 := b11) (b12 := b12) (b13 := b13) (b14 := b14) (b15 := b15) (b16 := b16) (b17 := b17) (kinds := kinds) (tgs := tgs) (first := first) (second := second) (vals := vals) (qs := qs) (hds := hds) (An := An) (qi := qi) (qo := qo) (Tm := Tm) (Nw := Nw) (Kw := Kw) (ni := ni) (bc := bc) (cm := cm) (cn := cn) (qc := qc) (cd := 1) (ris := ris)  ) (cwV 0 C.2.2.2.2.1 gL_law_X6_thrown rfl rfl rfl (by decide +kernel) ⟨Nat.le_of_ble_eq_true rfl, Nat.le_of_ble_eq_true rfl⟩) [wMA g ma m1 m2 m3 la tp qa sa ta ua kinds ni hds bc tgs, wLog g la l1 l2 l3 l4 l5 l6 l7 l8 l9 deed first second item side picked qcnt An An cm, wPal g tp tv tr vals ris cn, wQuo g qa q1 q2 q3 qi qo qs qc, wScr g sa la qa, wTab g ta tp tlo thi T T, wTab g ua tp ulo uhi Tr Tr, wMM g mm b1 b2 b3 b4 b5 b6 b7 b8 b9 b10 b11 b12 b13 b14 b15 b16 b17 kinds ni cm first second An An Tm Tm bc hds tgs qc qi qo qs cn vals Nw Nw Kw Kw 1, rO g oa fo, rD g od fd] [7] [0, 1, 2, 3, 4, 5, 6, 8, 9] [] (fun _ => [wMA g ma m1 m2 m3 la tp qa sa ta ua kinds ni hds bc tgs, wLog g la l1 l2 l3 l4 l5 l6 l7 l8 l9 deed first second item side picked qcnt An An cm, wPal g tp tv tr vals ris cn, wQuo g qa q1 q2 q3 qi qo qs qc, wScr g sa la qa, wTab g ta tp tlo thi T T, wTab g ua tp ulo uhi Tr Tr, wMM g mm b1 b2 b3 b4 b5 b6 b7 b8 b9 b10 b11 b12 b13 b14 b15 b16 b17 kinds ni cm first second An An Tm Tm bc hds tgs qc qi qo qs cn vals Nw Nw Kw Kw 1, rO g oa fo, rD g od fd]) (fun _ => wMA g ma m1 m2 m3 la tp qa sa ta ua kinds ni hds bc tgs ++ (wLog g la l1 l2 l3 l4 l5 l6 l7 l8 l9 deed first second item side picked qcnt An An cm ++ (wPal g tp tv tr vals ris cn ++ (wQuo g qa q1 q2 q3 qi qo qs qc ++ (wScr g sa la qa ++ (wTab g ta tp tlo thi T T ++ (wTab g ua tp ulo uhi Tr Tr ++ (wMM g mm b1 b2 b3 b4 b5 b6 b7 b8 b9 b10 b11 b12 b13 b14 b15 b16 b17 kinds ni cm first second An An Tm Tm bc hds tgs qc qi qo qs cn vals Nw Nw Kw Kw 1 ++ (rO g oa fo ++ (rD g od fd ++ ([]))))))))))) okP_7 (fl10 _ _ _ _ _ _ _ _ _ _).symm (pkC_7 _ _ _ _ _ _ _ _ _ _) (fun _ => pkC_7 _ _ _ _ _ _ _ _ _ _) (fun _ => pkR_7 _ _ _ _ _ _ _ _ _ _ _) (fun _ => rfl) (fun _ => fl10 _ _ _ _ _ _ _ _ _ _) rfl rfl rfl rfl rfl (Nat.le_of_ble_eq_true rfl) dL_law_1915 ⟨hk9m, hn9m⟩ (fun r_4 _ h_3 => ?_)
    subst h_3
    refine v_st (st' := [.int (iI (1))]) rfl ?_
    refine v_iload C dL_law_1918 1 rfl ?_
    refine v_icmp_eq C 1925 dL_law_1920 (by decide) (b31_lit _ rfl) (b31_lit _ rfl) (fun _ => ?_) (fun h => absurd h (by decide))
    refine v_iload C dL_law_1925 1 rfl ?_
    refine v_if_ne C 1942 dL_law_1927 (by decide) (b31_lit _ rfl) (fun _ => ?_) (fun h => absurd h (by decide))
    refine v_goto C 2209 dL_law_1942 (by decide) ?_
    refine v_lv (lv' := [(0, .ref (b)), (1, .ref (ma)), (2, .ref (mm)), (3, .ref (oa)), (4, .ref (od)), (5, .int (iI ((4 * j : Nat) : Int)))]) [2, 3, 4, 5, 6, 7] rfl ?_
    exact kk kinds tgs first second vals qs hds deed item side picked qcnt An ris qi qo T Tr Tm Nw Kw ni bc cm cn qc 1 fo fd hR
  obtain ⟨x0, rfl⟩ : ∃ i : Nat, x = (i : Int) := ⟨x.toNat, by omega⟩
  have hx0 : x0 < ni := by omega
  by_cases hry : 0 ≤ y ∧ y < ((ni : Nat) : Int)
  rotate_left
  ·
    refine v_aload_n C dL_law_1865 rfl 1 rfl ?_
    refine v_aload_n C dL_law_1866 rfl 0 rfl ?_
    refine v_iload C dL_law_1867 5 rfl ?_
    refine v_iconst C (z := 1) dL_law_1869 ?_
    refine v_iadd C dL_law_1870 ?_
    rw [show (((4 * j : Nat) : Int)) + 1 = (((4 * j) + 1 : Nat) : Int) from rfl]
    refine v_sld K9 ((4 * j) + 1) rfl (by omega) hxe dL_law_1871 ?_
    refine v_aload_n C dL_law_1872 rfl 0 rfl ?_
    refine v_iload C dL_law_1873 5 rfl ?_
    refine v_iconst C (z := 2) dL_law_1875 ?_
    refine v_iadd C dL_law_1876 ?_
    rw [show (((4 * j : Nat) : Int)) + 2 = (((4 * j) + 2 : Nat) : Int) from rfl]
    refine v_sld K9 ((4 * j) + 2) rfl (by omega) hye dL_law_1877 ?_
    refine v_aload_n C dL_law_1878 rfl 0 rfl ?_
    refine v_iload C dL_law_1879 5 rfl ?_
    refine v_iconst C (z := 3) dL_law_1881 ?_
    refine v_iadd C dL_law_1882 ?_
    rw [show (((4 * j : Nat) : Int)) + 3 = (((4 * j) + 3 : Nat) : Int) from rfl]
    refine v_sld K9 ((4 * j) + 3) rfl (by omega) hze dL_law_1883 ?_
    refine v_aload_n C dL_law_1884 rfl 3 rfl ?_
    refine v_lwI C hX (As := [.ref (ma), .int (iI ((x0 : Nat) : Int)), .int (iI (y)), .int (iI (z)), .ref (oa)]) (kL_quote_1 l g sx hst (ma := ma) (m1 := m1) (m2 := m2) (m3 := m3) (la := la) (tp := tp) (qa := qa) (sa := sa) (ta := ta) (ua := ua) (kinds := kinds) (tgs := tgs) (hds := hds) (ni := ni) (bc := bc) (q1 := q1) (q2 := q2) (q3 := q3) (qi := qi) (qo := qo) (qs := qs) (qc := qc) (oa := oa) (fo := fo) (x := ((x0 : Nat) : Int)) (y := y) (z := z) ⟨by omega, by omega⟩ hy hz hni hqc (by omega)) (vx_cwSW 5 C.2.2.2.2.1 gL_law_L_quote rfl rfl rfl (by decide +kernel) ⟨Nat.le_of_ble_eq_true rfl, Nat.le_of_ble_eq_true rfl⟩) [wMA g ma m1 m2 m3 la tp qa sa ta ua kinds ni hds bc tgs, wLog g la l1 l2 l3 l4 l5 l6 l7 l8 l9 deed first second item side picked qcnt An An cm, wPal g tp tv tr vals ris cn, wQuo g qa q1 q2 q3 qi qo qs qc, wScr g sa la qa, wTab g ta tp tlo thi T T, wTab g ua tp ulo uhi Tr Tr, wMM g mm b1 b2 b3 b4 b5 b6 b7 b8 b9 b10 b11 b12 b13 b14 b15 b16 b17 kinds ni cm first second An An Tm Tm bc hds tgs qc qi qo qs cn vals Nw Nw Kw Kw cd, rO g oa fo, rD g od fd] [0, 3, 8] [1, 2, 4, 5, 6, 7, 9] [] (fun _ => [wMA g ma m1 m2 m3 la tp qa sa ta ua kinds ni hds bc tgs, wLog g la l1 l2 l3 l4 l5 l6 l7 l8 l9 deed first second item side picked qcnt An An cm, wPal g tp tv tr vals ris cn, wQuo g qa q1 q2 q3 qi qo qs qc, wScr g sa la qa, wTab g ta tp tlo thi T T, wTab g ua tp ulo uhi Tr Tr, wMM g mm b1 b2 b3 b4 b5 b6 b7 b8 b9 b10 b11 b12 b13 b14 b15 b16 b17 kinds ni cm first second An An Tm Tm bc hds tgs qc qi qo qs cn vals Nw Nw Kw Kw cd, rO g oa fo, rD g od fd]) (fun _ => wMA g ma m1 m2 m3 la tp qa sa ta ua kinds ni hds bc tgs ++ (wLog g la l1 l2 l3 l4 l5 l6 l7 l8 l9 deed first second item side picked qcnt An An cm ++ (wPal g tp tv tr vals ris cn ++ (wQuo g qa q1 q2 q3 qi qo qs qc ++ (wScr g sa la qa ++ (wTab g ta tp tlo thi T T ++ (wTab g ua tp ulo uhi Tr Tr ++ (wMM g mm b1 b2 b3 b4 b5 b6 b7 b8 b9 b10 b11 b12 b13 b14 b15 b16 b17 kinds ni cm first second An An Tm Tm bc hds tgs qc qi qo qs cn vals Nw Nw Kw Kw cd ++ (rO g oa fo ++ (rD g od fd ++ ([]))))))))))) okP_0_3_8 (fl10 _ _ _ _ _ _ _ _ _ _).symm (pkC_0_3_8 _ _ _ _ _ _ _ _ _ _) (fun _ => pkC_0_3_8 _ _ _ _ _ _ _ _ _ _) (fun _ => pkR_0_3_8 _ _ _ _ _ _ _ _ _ _ _ _ _) (fun _ => rfl) (fun _ => fl10 _ _ _ _ _ _ _ _ _ _) rfl rfl (Nat.le_of_ble_eq_true rfl) dL_law_1885 ⟨hk9r, hn9r⟩ (fun r u hr9 => ?_)
    subst hr9
    refine v_istore C [(6, .int (iI (1))), (0, .ref (b)), (1, .ref (ma)), (2, .ref (mm)), (3, .ref (oa)), (4, .ref (od)), (5, .int (iI ((4 * j : Nat) : Int)))] dL_law_1888 (by decide) rfl ?_
    refine v_aload_n C dL_law_1890 rfl 3 rfl ?_
    refine v_aload_n C dL_law_1891 rfl 1 rfl ?_
    refine v_iload C dL_law_1892 6 rfl ?_
    refine v_iconst C (z := 1) dL_law_1894 ?_
    refine v_iadd C dL_law_1895 ?_
    rw [show (((4 * j : Nat) : Int)) + 1 = (((4 * j) + 1 : Nat) : Int) from rfl]
    refine v_sld K9 ((4 * j) + 1) rfl (by omega) hxe dL_law_1896 ?_
    refine v_aload_n C dL_law_1897 rfl 1 rfl ?_
    refine v_iload C dL_law_1898 6 rfl ?_
    refine v_iconst C (z := 2) dL_law_1900 ?_
    refine v_iadd C dL_law_1901 ?_
    rw [show (((4 * j : Nat) : Int)) + 2 = (((4 * j) + 2 : Nat) : Int) from rfl]
    refine v_sld K9 ((4 * j) + 2) rfl (by omega) hye dL_law_1902 ?_
    refine v_aload_n C dL_law_1903 rfl 1 rfl ?_
    refine v_iload C dL_law_1904 6 rfl ?_
    refine v_iconst C (z := 3) dL_law_1906 ?_
    refine v_iadd C dL_law_1907 ?_
    rw [show (((4 * j : Nat) : Int)) + 3 = (((4 * j) + 3 : Nat) : Int) from rfl]
    refine v_sld K9 ((4 * j) + 3) rfl (by omega) hze dL_law_1908 ?_
    refine v_invVI C (As := [.int (iI ((x0 : Nat) : Int)), .int (iI (y)), .int (iI (z))]) (q0 := 0) (ci := 6) (kX6_quote_b l g (mm := mm) (b1 := b1) (b2 := b2) (b3 := b3) (b4 := b4) (b5 := b5) (b6 := b6) (b7 := b7) (b8 := b8) (b9 := b9) (b10 := b10) (b11 := b11) (b12 := b12) (b13 := b13) (b14 := b14) (b15 := b15) (b16 := b16) (b17 := b17) (kinds := kinds) (tgs := tgs) (first := first) (second := second) (vals := vals) (qs := qs) (hds := hds) (An := An) (qi := qi) (qo := qo) (Tm := Tm) (Nw := Nw) (Kw := Kw) (ni := ni) (bc := bc) (cm := cm) (cn := cn) (qc := qc) (cd := cd) (ris := ris) (x0 := x0) (y := y) (z := z) hI (by omega) ⟨by omega, by omega⟩ (by omega) ⟨by omega, by omega⟩) (cwV 3 C.2.2.2.2.1 gL_law_X6_quote rfl rfl rfl (by decide +kernel) ⟨Nat.le_of_ble_eq_true rfl, Nat.le_of_ble_eq_true rfl⟩) [wMA g ma m1 m2 m3 la tp qa sa ta ua kinds ni hds bc tgs, wLog g la l1 l2 l3 l4 l5 l6 l7 l8 l9 deed first second item side picked qcnt An An cm, wPal g tp tv tr vals ris cn, wQuo g qa q1 q2 q3 qi qo qs qc, wScr g sa la qa, wTab g ta tp tlo thi T T, wTab g ua tp ulo uhi Tr Tr, wMM g mm b1 b2 b3 b4 b5 b6 b7 b8 b9 b10 b11 b12 b13 b14 b15 b16 b17 kinds ni cm first second An An Tm Tm bc hds tgs qc qi qo qs cn vals Nw Nw Kw Kw cd, rO g oa fo, rD g od fd] [7] [0, 1, 2, 3, 4, 5, 6, 8, 9] [] (fun _ => [wMA g ma m1 m2 m3 la tp qa sa ta ua kinds ni hds bc tgs, wLog g la l1 l2 l3 l4 l5 l6 l7 l8 l9 deed first second item side picked qcnt An An cm, wPal g tp tv tr vals ris cn, wQuo g qa q1 q2 q3 qi qo qs qc, wScr g sa la qa, wTab g ta tp tlo thi T T, wTab g ua tp ulo uhi Tr Tr, wMM g mm b1 b2 b3 b4 b5 b6 b7 b8 b9 b10 b11 b12 b13 b14 b15 b16 b17 kinds ni cm first second An An Tm Tm bc hds tgs qc qi qo qs cn vals Nw Nw Kw Kw 1, rO g oa fo, rD g od fd]) (fun _ => wMA g ma m1 m2 m3 la tp qa sa ta ua kinds ni hds bc tgs ++ (wLog g la l1 l2 l3 l4 l5 l6 l7 l8 l9 deed first second item side picked qcnt An An cm ++ (wPal g tp tv tr vals ris cn ++ (wQuo g qa q1 q2 q3 qi qo qs qc ++ (wScr g sa la qa ++ (wTab g ta tp tlo thi T T ++ (wTab g ua tp ulo uhi Tr Tr ++ (wMM g mm b1 b2 b3 b4 b5 b6 b7 b8 b9 b10 b11 b12 b13 b14 b15 b16 b17 kinds ni cm first second An An Tm Tm bc hds tgs qc qi qo qs cn vals Nw Nw Kw Kw 1 ++ (rO g oa fo ++ (rD g od fd ++ ([]))))))))))) okP_7 (fl10 _ _ _ _ _ _ _ _ _ _).symm (pkC_7 _ _ _ _ _ _ _ _ _ _) (fun _ => pkC_7 _ _ _ _ _ _ _ _ _ _) (fun _ => pkR_7 _ _ _ _ _ _ _ _ _ _ _) (fun _ => rfl) (fun _ => fl10 _ _ _ _ _ _ _ _ _ _) rfl rfl rfl rfl rfl (Nat.le_of_ble_eq_true rfl) dL_law_1909 ⟨hk9m, hn9m⟩ (fun r_6 _ h_5 => ?_)
    refine v_istore C [(7, .int (r_6)), (6, .int (iI (1))), (0, .ref (b)), (1, .ref (ma)), (2, .ref (mm)), (3, .ref (oa)), (4, .ref (od)), (5, .int (iI ((4 * j : Nat) : Int)))] dL_law_1912 (by decide) rfl ?_
    refine v_aload_n C dL_law_1914 rfl 4 rfl ?_
    refine v_invVI C (As := []) (q0 := 0) (ci := 6) (kX6_thrown l g (mm := mm) (b1 := b1) (b2 := b2) (b3 := b3) (b4 := b4) (b5 := b5) (b6 := b6) (b7 := b7) (b8 := b8) (b9 := b9) (b10 := b10) (b11 := b11) (b12 := b12) (b13 := b13) (b14 := b14) (b15 := b15) (b16 := b16) (b17 := b17) (kinds := kinds) (tgs := tgs) (first := first) (second := second) (vals := vals) (qs := qs) (hds := hds) (An := An) (qi := qi) (qo := qo) (Tm := Tm) (Nw := Nw) (Kw := Kw) (ni := ni) (bc := bc) (cm := cm) (cn := cn) (qc := qc) (cd := 1) (ris := ris)  ) (cwV 0 C.2.2.2.2.1 gL_law_X6_thrown rfl rfl rfl (by decide +kernel) ⟨Nat.le_of_ble_eq_true rfl, Nat.le_of_ble_eq_true rfl⟩) [wMA g ma m1 m2 m3 la tp qa sa ta ua kinds ni hds bc tgs, wLog g la l1 l2 l3 l4 l5 l6 l7 l8 l9 deed first second item side picked qcnt An An cm, wPal g tp tv tr vals ris cn, wQuo g qa q1 q2 q3 qi qo qs qc, wScr g sa la qa, wTab g ta tp tlo thi T T, wTab g ua tp ulo uhi Tr Tr, wMM g mm b1 b2 b3 b4 b5 b6 b7 b8 b9 b10 b11 b12 b13 b14 b15 b16 b17 kinds ni cm first second An An Tm Tm bc hds tgs qc qi qo qs cn vals Nw Nw Kw Kw 1, rO g oa fo, rD g od fd] [7] [0, 1, 2, 3, 4, 5, 6, 8, 9] [] (fun _ => [wMA g ma m1 m2 m3 la tp qa sa ta ua kinds ni hds bc tgs, wLog g la l1 l2 l3 l4 l5 l6 l7 l8 l9 deed first second item side picked qcnt An An cm, wPal g tp tv tr vals ris cn, wQuo g qa q1 q2 q3 qi qo qs qc, wScr g sa la qa, wTab g ta tp tlo thi T T, wTab g ua tp ulo uhi Tr Tr, wMM g mm b1 b2 b3 b4 b5 b6 b7 b8 b9 b10 b11 b12 b13 b14 b15 b16 b17 kinds ni cm first second An An Tm Tm bc hds tgs qc qi qo qs cn vals Nw Nw Kw Kw 1, rO g oa fo, rD g od fd]) (fun _ => wMA g ma m1 m2 m3 la tp qa sa ta ua kinds ni hds bc tgs ++ (wLog g la l1 l2 l3 l4 l5 l6 l7 l8 l9 deed first second item side picked qcnt An An cm ++ (wPal g tp tv tr vals ris cn ++ (wQuo g qa q1 q2 q3 qi qo qs qc ++ (wScr g sa la qa ++ (wTab g ta tp tlo thi T T ++ (wTab g ua tp ulo uhi Tr Tr ++ (wMM g mm b1 b2 b3 b4 b5 b6 b7 b8 b9 b10 b11 b12 b13 b14 b15 b16 b17 kinds ni cm first second An An Tm Tm bc hds tgs qc qi qo qs cn vals Nw Nw Kw Kw 1 ++ (rO g oa fo ++ (rD g od fd ++ ([]))))))))))) okP_7 (fl10 _ _ _ _ _ _ _ _ _ _).symm (pkC_7 _ _ _ _ _ _ _ _ _ _) (fun _ => pkC_7 _ _ _ _ _ _ _ _ _ _) (fun _ => pkR_7 _ _ _ _ _ _ _ _ _ _ _) (fun _ => rfl) (fun _ => fl10 _ _ _ _ _ _ _ _ _ _) rfl rfl rfl rfl rfl (Nat.le_of_ble_eq_true rfl) dL_law_1915 ⟨hk9m, hn9m⟩ (fun r_8 _ h_7 => ?_)
    subst h_7
    refine v_st (st' := [.int (iI (1))]) rfl ?_
    refine v_iload C dL_law_1918 1 rfl ?_
    refine v_icmp_eq C 1925 dL_law_1920 (by decide) (b31_lit _ rfl) (b31_lit _ rfl) (fun _ => ?_) (fun h => absurd h (by decide))
    refine v_iload C dL_law_1925 1 rfl ?_
    refine v_if_ne C 1942 dL_law_1927 (by decide) (b31_lit _ rfl) (fun _ => ?_) (fun h => absurd h (by decide))
    refine v_goto C 2209 dL_law_1942 (by decide) ?_
    refine v_lv (lv' := [(0, .ref (b)), (1, .ref (ma)), (2, .ref (mm)), (3, .ref (oa)), (4, .ref (od)), (5, .int (iI ((4 * j : Nat) : Int)))]) [2, 3, 4, 5, 6, 7] rfl ?_
    exact kk kinds tgs first second vals qs hds deed item side picked qcnt An ris qi qo T Tr Tm Nw Kw ni bc cm cn qc 1 fo fd hR
  obtain ⟨y0, rfl⟩ : ∃ i : Nat, y = (i : Int) := ⟨y.toNat, by omega⟩
  have hy0 : y0 < ni := by omega
  by_cases hc1 : ((x0 : Nat) : Int) = ((y0 : Nat) : Int) ∨ z < -99 ∨ 99 < z
  ·
    have hq9 : x0 = y0 ∨ z < -99 ∨ 99 < z := by omega
    refine v_aload_n C dL_law_1865 rfl 1 rfl ?_
    refine v_aload_n C dL_law_1866 rfl 0 rfl ?_
    refine v_iload C dL_law_1867 5 rfl ?_
    refine v_iconst C (z := 1) dL_law_1869 ?_
    refine v_iadd C dL_law_1870 ?_
    rw [show (((4 * j : Nat) : Int)) + 1 = (((4 * j) + 1 : Nat) : Int) from rfl]
    refine v_sld K9 ((4 * j) + 1) rfl (by omega) hxe dL_law_1871 ?_
    refine v_aload_n C dL_law_1872 rfl 0 rfl ?_
    refine v_iload C dL_law_1873 5 rfl ?_
    refine v_iconst C (z := 2) dL_law_1875 ?_
    refine v_iadd C dL_law_1876 ?_
    rw [show (((4 * j : Nat) : Int)) + 2 = (((4 * j) + 2 : Nat) : Int) from rfl]
    refine v_sld K9 ((4 * j) + 2) rfl (by omega) hye dL_law_1877 ?_
    refine v_aload_n C dL_law_1878 rfl 0 rfl ?_
    refine v_iload C dL_law_1879 5 rfl ?_
    refine v_iconst C (z := 3) dL_law_1881 ?_
    refine v_iadd C dL_law_1882 ?_
    rw [show (((4 * j : Nat) : Int)) + 3 = (((4 * j) + 3 : Nat) : Int) from rfl]
    refine v_sld K9 ((4 * j) + 3) rfl (by omega) hze dL_law_1883 ?_
    refine v_aload_n C dL_law_1884 rfl 3 rfl ?_
    refine v_lwI C hX (As := [.ref (ma), .int (iI ((x0 : Nat) : Int)), .int (iI ((y0 : Nat) : Int)), .int (iI (z)), .ref (oa)]) (kL_quote_2 l g sx hst (ma := ma) (m1 := m1) (m2 := m2) (m3 := m3) (la := la) (tp := tp) (qa := qa) (sa := sa) (ta := ta) (ua := ua) (kinds := kinds) (tgs := tgs) (hds := hds) (ni := ni) (bc := bc) (q1 := q1) (q2 := q2) (q3 := q3) (qi := qi) (qo := qo) (qs := qs) (qc := qc) (oa := oa) (fo := fo) (x := ((x0 : Nat) : Int)) (y := ((y0 : Nat) : Int)) (z := z) ⟨by omega, by omega⟩ ⟨by omega, by omega⟩ hz hni hqc (by omega) hc1) (vx_cwSW 5 C.2.2.2.2.1 gL_law_L_quote rfl rfl rfl (by decide +kernel) ⟨Nat.le_of_ble_eq_true rfl, Nat.le_of_ble_eq_true rfl⟩) [wMA g ma m1 m2 m3 la tp qa sa ta ua kinds ni hds bc tgs, wLog g la l1 l2 l3 l4 l5 l6 l7 l8 l9 deed first second item side picked qcnt An An cm, wPal g tp tv tr vals ris cn, wQuo g qa q1 q2 q3 qi qo qs qc, wScr g sa la qa, wTab g ta tp tlo thi T T, wTab g ua tp ulo uhi Tr Tr, wMM g mm b1 b2 b3 b4 b5 b6 b7 b8 b9 b10 b11 b12 b13 b14 b15 b16 b17 kinds ni cm first second An An Tm Tm bc hds tgs qc qi qo qs cn vals Nw Nw Kw Kw cd, rO g oa fo, rD g od fd] [0, 3, 8] [1, 2, 4, 5, 6, 7, 9] [] (fun _ => [wMA g ma m1 m2 m3 la tp qa sa ta ua kinds ni hds bc tgs, wLog g la l1 l2 l3 l4 l5 l6 l7 l8 l9 deed first second item side picked qcnt An An cm, wPal g tp tv tr vals ris cn, wQuo g qa q1 q2 q3 qi qo qs qc, wScr g sa la qa, wTab g ta tp tlo thi T T, wTab g ua tp ulo uhi Tr Tr, wMM g mm b1 b2 b3 b4 b5 b6 b7 b8 b9 b10 b11 b12 b13 b14 b15 b16 b17 kinds ni cm first second An An Tm Tm bc hds tgs qc qi qo qs cn vals Nw Nw Kw Kw cd, rO g oa fo, rD g od fd]) (fun _ => wMA g ma m1 m2 m3 la tp qa sa ta ua kinds ni hds bc tgs ++ (wLog g la l1 l2 l3 l4 l5 l6 l7 l8 l9 deed first second item side picked qcnt An An cm ++ (wPal g tp tv tr vals ris cn ++ (wQuo g qa q1 q2 q3 qi qo qs qc ++ (wScr g sa la qa ++ (wTab g ta tp tlo thi T T ++ (wTab g ua tp ulo uhi Tr Tr ++ (wMM g mm b1 b2 b3 b4 b5 b6 b7 b8 b9 b10 b11 b12 b13 b14 b15 b16 b17 kinds ni cm first second An An Tm Tm bc hds tgs qc qi qo qs cn vals Nw Nw Kw Kw cd ++ (rO g oa fo ++ (rD g od fd ++ ([]))))))))))) okP_0_3_8 (fl10 _ _ _ _ _ _ _ _ _ _).symm (pkC_0_3_8 _ _ _ _ _ _ _ _ _ _) (fun _ => pkC_0_3_8 _ _ _ _ _ _ _ _ _ _) (fun _ => pkR_0_3_8 _ _ _ _ _ _ _ _ _ _ _ _ _) (fun _ => rfl) (fun _ => fl10 _ _ _ _ _ _ _ _ _ _) rfl rfl (Nat.le_of_ble_eq_true rfl) dL_law_1885 ⟨hk9r, hn9r⟩ (fun r u hr9 => ?_)
    subst hr9
    refine v_istore C [(6, .int (iI (2))), (0, .ref (b)), (1, .ref (ma)), (2, .ref (mm)), (3, .ref (oa)), (4, .ref (od)), (5, .int (iI ((4 * j : Nat) : Int)))] dL_law_1888 (by decide) rfl ?_
    refine v_aload_n C dL_law_1890 rfl 3 rfl ?_
    refine v_aload_n C dL_law_1891 rfl 1 rfl ?_
    refine v_iload C dL_law_1892 6 rfl ?_
    refine v_iconst C (z := 1) dL_law_1894 ?_
    refine v_iadd C dL_law_1895 ?_
    rw [show (((4 * j : Nat) : Int)) + 1 = (((4 * j) + 1 : Nat) : Int) from rfl]
    refine v_sld K9 ((4 * j) + 1) rfl (by omega) hxe dL_law_1896 ?_
    refine v_aload_n C dL_law_1897 rfl 1 rfl ?_
    refine v_iload C dL_law_1898 6 rfl ?_
    refine v_iconst C (z := 2) dL_law_1900 ?_
    refine v_iadd C dL_law_1901 ?_
    rw [show (((4 * j : Nat) : Int)) + 2 = (((4 * j) + 2 : Nat) : Int) from rfl]
    refine v_sld K9 ((4 * j) + 2) rfl (by omega) hye dL_law_1902 ?_
    refine v_aload_n C dL_law_1903 rfl 1 rfl ?_
    refine v_iload C dL_law_1904 6 rfl ?_
    refine v_iconst C (z := 3) dL_law_1906 ?_
    refine v_iadd C dL_law_1907 ?_
    rw [show (((4 * j : Nat) : Int)) + 3 = (((4 * j) + 3 : Nat) : Int) from rfl]
    refine v_sld K9 ((4 * j) + 3) rfl (by omega) hze dL_law_1908 ?_
    refine v_invVI C (As := [.int (iI ((x0 : Nat) : Int)), .int (iI ((y0 : Nat) : Int)), .int (iI (z))]) (q0 := 0) (ci := 6) (kX6_quote_2 l g (mm := mm) (b1 := b1) (b2 := b2) (b3 := b3) (b4 := b4) (b5 := b5) (b6 := b6) (b7 := b7) (b8 := b8) (b9 := b9) (b10 := b10) (b11 := b11) (b12 := b12) (b13 := b13) (b14 := b14) (b15 := b15) (b16 := b16) (b17 := b17) (kinds := kinds) (tgs := tgs) (first := first) (second := second) (vals := vals) (qs := qs) (hds := hds) (An := An) (qi := qi) (qo := qo) (Tm := Tm) (Nw := Nw) (Kw := Kw) (ni := ni) (bc := bc) (cm := cm) (cn := cn) (qc := qc) (cd := cd) (ris := ris) (x0 := x0) (y0 := y0) (z := z) hI (by omega) (by omega) ⟨by omega, by omega⟩ hq9) (cwV 3 C.2.2.2.2.1 gL_law_X6_quote rfl rfl rfl (by decide +kernel) ⟨Nat.le_of_ble_eq_true rfl, Nat.le_of_ble_eq_true rfl⟩) [wMA g ma m1 m2 m3 la tp qa sa ta ua kinds ni hds bc tgs, wLog g la l1 l2 l3 l4 l5 l6 l7 l8 l9 deed first second item side picked qcnt An An cm, wPal g tp tv tr vals ris cn, wQuo g qa q1 q2 q3 qi qo qs qc, wScr g sa la qa, wTab g ta tp tlo thi T T, wTab g ua tp ulo uhi Tr Tr, wMM g mm b1 b2 b3 b4 b5 b6 b7 b8 b9 b10 b11 b12 b13 b14 b15 b16 b17 kinds ni cm first second An An Tm Tm bc hds tgs qc qi qo qs cn vals Nw Nw Kw Kw cd, rO g oa fo, rD g od fd] [7] [0, 1, 2, 3, 4, 5, 6, 8, 9] [] (fun _ => [wMA g ma m1 m2 m3 la tp qa sa ta ua kinds ni hds bc tgs, wLog g la l1 l2 l3 l4 l5 l6 l7 l8 l9 deed first second item side picked qcnt An An cm, wPal g tp tv tr vals ris cn, wQuo g qa q1 q2 q3 qi qo qs qc, wScr g sa la qa, wTab g ta tp tlo thi T T, wTab g ua tp ulo uhi Tr Tr, wMM g mm b1 b2 b3 b4 b5 b6 b7 b8 b9 b10 b11 b12 b13 b14 b15 b16 b17 kinds ni cm first second An An Tm Tm bc hds tgs qc qi qo qs cn vals Nw Nw Kw Kw 2, rO g oa fo, rD g od fd]) (fun _ => wMA g ma m1 m2 m3 la tp qa sa ta ua kinds ni hds bc tgs ++ (wLog g la l1 l2 l3 l4 l5 l6 l7 l8 l9 deed first second item side picked qcnt An An cm ++ (wPal g tp tv tr vals ris cn ++ (wQuo g qa q1 q2 q3 qi qo qs qc ++ (wScr g sa la qa ++ (wTab g ta tp tlo thi T T ++ (wTab g ua tp ulo uhi Tr Tr ++ (wMM g mm b1 b2 b3 b4 b5 b6 b7 b8 b9 b10 b11 b12 b13 b14 b15 b16 b17 kinds ni cm first second An An Tm Tm bc hds tgs qc qi qo qs cn vals Nw Nw Kw Kw 2 ++ (rO g oa fo ++ (rD g od fd ++ ([]))))))))))) okP_7 (fl10 _ _ _ _ _ _ _ _ _ _).symm (pkC_7 _ _ _ _ _ _ _ _ _ _) (fun _ => pkC_7 _ _ _ _ _ _ _ _ _ _) (fun _ => pkR_7 _ _ _ _ _ _ _ _ _ _ _) (fun _ => rfl) (fun _ => fl10 _ _ _ _ _ _ _ _ _ _) rfl rfl rfl rfl rfl (Nat.le_of_ble_eq_true rfl) dL_law_1909 ⟨hk9m, hn9m⟩ (fun r_10 _ h_9 => ?_)
    refine v_istore C [(7, .int (r_10)), (6, .int (iI (2))), (0, .ref (b)), (1, .ref (ma)), (2, .ref (mm)), (3, .ref (oa)), (4, .ref (od)), (5, .int (iI ((4 * j : Nat) : Int)))] dL_law_1912 (by decide) rfl ?_
    refine v_aload_n C dL_law_1914 rfl 4 rfl ?_
    refine v_invVI C (As := []) (q0 := 0) (ci := 6) (kX6_thrown l g (mm := mm) (b1 := b1) (b2 := b2) (b3 := b3) (b4 := b4) (b5 := b5) (b6 := b6) (b7 := b7) (b8 := b8) (b9 := b9) (b10 := b10) (b11 := b11) (b12 := b12) (b13 := b13) (b14 := b14) (b15 := b15) (b16 := b16) (b17 := b17) (kinds := kinds) (tgs := tgs) (first := first) (second := second) (vals := vals) (qs := qs) (hds := hds) (An := An) (qi := qi) (qo := qo) (Tm := Tm) (Nw := Nw) (Kw := Kw) (ni := ni) (bc := bc) (cm := cm) (cn := cn) (qc := qc) (cd := 2) (ris := ris)  ) (cwV 0 C.2.2.2.2.1 gL_law_X6_thrown rfl rfl rfl (by decide +kernel) ⟨Nat.le_of_ble_eq_true rfl, Nat.le_of_ble_eq_true rfl⟩) [wMA g ma m1 m2 m3 la tp qa sa ta ua kinds ni hds bc tgs, wLog g la l1 l2 l3 l4 l5 l6 l7 l8 l9 deed first second item side picked qcnt An An cm, wPal g tp tv tr vals ris cn, wQuo g qa q1 q2 q3 qi qo qs qc, wScr g sa la qa, wTab g ta tp tlo thi T T, wTab g ua tp ulo uhi Tr Tr, wMM g mm b1 b2 b3 b4 b5 b6 b7 b8 b9 b10 b11 b12 b13 b14 b15 b16 b17 kinds ni cm first second An An Tm Tm bc hds tgs qc qi qo qs cn vals Nw Nw Kw Kw 2, rO g oa fo, rD g od fd] [7] [0, 1, 2, 3, 4, 5, 6, 8, 9] [] (fun _ => [wMA g ma m1 m2 m3 la tp qa sa ta ua kinds ni hds bc tgs, wLog g la l1 l2 l3 l4 l5 l6 l7 l8 l9 deed first second item side picked qcnt An An cm, wPal g tp tv tr vals ris cn, wQuo g qa q1 q2 q3 qi qo qs qc, wScr g sa la qa, wTab g ta tp tlo thi T T, wTab g ua tp ulo uhi Tr Tr, wMM g mm b1 b2 b3 b4 b5 b6 b7 b8 b9 b10 b11 b12 b13 b14 b15 b16 b17 kinds ni cm first second An An Tm Tm bc hds tgs qc qi qo qs cn vals Nw Nw Kw Kw 2, rO g oa fo, rD g od fd]) (fun _ => wMA g ma m1 m2 m3 la tp qa sa ta ua kinds ni hds bc tgs ++ (wLog g la l1 l2 l3 l4 l5 l6 l7 l8 l9 deed first second item side picked qcnt An An cm ++ (wPal g tp tv tr vals ris cn ++ (wQuo g qa q1 q2 q3 qi qo qs qc ++ (wScr g sa la qa ++ (wTab g ta tp tlo thi T T ++ (wTab g ua tp ulo uhi Tr Tr ++ (wMM g mm b1 b2 b3 b4 b5 b6 b7 b8 b9 b10 b11 b12 b13 b14 b15 b16 b17 kinds ni cm first second An An Tm Tm bc hds tgs qc qi qo qs cn vals Nw Nw Kw Kw 2 ++ (rO g oa fo ++ (rD g od fd ++ ([]))))))))))) okP_7 (fl10 _ _ _ _ _ _ _ _ _ _).symm (pkC_7 _ _ _ _ _ _ _ _ _ _) (fun _ => pkC_7 _ _ _ _ _ _ _ _ _ _) (fun _ => pkR_7 _ _ _ _ _ _ _ _ _ _ _) (fun _ => rfl) (fun _ => fl10 _ _ _ _ _ _ _ _ _ _) rfl rfl rfl rfl rfl (Nat.le_of_ble_eq_true rfl) dL_law_1915 ⟨hk9m, hn9m⟩ (fun r_12 _ h_11 => ?_)
    subst h_11
    refine v_st (st' := [.int (iI (2))]) rfl ?_
    refine v_iload C dL_law_1918 1 rfl ?_
    refine v_icmp_eq C 1925 dL_law_1920 (by decide) (b31_lit _ rfl) (b31_lit _ rfl) (fun _ => ?_) (fun h => absurd h (by decide))
    refine v_iload C dL_law_1925 1 rfl ?_
    refine v_if_ne C 1942 dL_law_1927 (by decide) (b31_lit _ rfl) (fun _ => ?_) (fun h => absurd h (by decide))
    refine v_goto C 2209 dL_law_1942 (by decide) ?_
    refine v_lv (lv' := [(0, .ref (b)), (1, .ref (ma)), (2, .ref (mm)), (3, .ref (oa)), (4, .ref (od)), (5, .int (iI ((4 * j : Nat) : Int)))]) [2, 3, 4, 5, 6, 7] rfl ?_
    exact kk kinds tgs first second vals qs hds deed item side picked qcnt An ris qi qo T Tr Tm Nw Kw ni bc cm cn qc 2 fo fd hR
  by_cases hc2 : qc = 10
  ·
    refine v_aload_n C dL_law_1865 rfl 1 rfl ?_
    refine v_aload_n C dL_law_1866 rfl 0 rfl ?_
    refine v_iload C dL_law_1867 5 rfl ?_
    refine v_iconst C (z := 1) dL_law_1869 ?_
    refine v_iadd C dL_law_1870 ?_
    rw [show (((4 * j : Nat) : Int)) + 1 = (((4 * j) + 1 : Nat) : Int) from rfl]
    refine v_sld K9 ((4 * j) + 1) rfl (by omega) hxe dL_law_1871 ?_
    refine v_aload_n C dL_law_1872 rfl 0 rfl ?_
    refine v_iload C dL_law_1873 5 rfl ?_
    refine v_iconst C (z := 2) dL_law_1875 ?_
    refine v_iadd C dL_law_1876 ?_
    rw [show (((4 * j : Nat) : Int)) + 2 = (((4 * j) + 2 : Nat) : Int) from rfl]
    refine v_sld K9 ((4 * j) + 2) rfl (by omega) hye dL_law_1877 ?_
    refine v_aload_n C dL_law_1878 rfl 0 rfl ?_
    refine v_iload C dL_law_1879 5 rfl ?_
    refine v_iconst C (z := 3) dL_law_1881 ?_
    refine v_iadd C dL_law_1882 ?_
    rw [show (((4 * j : Nat) : Int)) + 3 = (((4 * j) + 3 : Nat) : Int) from rfl]
    refine v_sld K9 ((4 * j) + 3) rfl (by omega) hze dL_law_1883 ?_
    refine v_aload_n C dL_law_1884 rfl 3 rfl ?_
    refine v_lwI C hX (As := [.ref (ma), .int (iI ((x0 : Nat) : Int)), .int (iI ((y0 : Nat) : Int)), .int (iI (z)), .ref (oa)]) (kL_quote_3 l g sx hst (ma := ma) (m1 := m1) (m2 := m2) (m3 := m3) (la := la) (tp := tp) (qa := qa) (sa := sa) (ta := ta) (ua := ua) (kinds := kinds) (tgs := tgs) (hds := hds) (ni := ni) (bc := bc) (q1 := q1) (q2 := q2) (q3 := q3) (qi := qi) (qo := qo) (qs := qs) (qc := qc) (oa := oa) (fo := fo) (x := ((x0 : Nat) : Int)) (y := ((y0 : Nat) : Int)) (z := z) ⟨by omega, by omega⟩ ⟨by omega, by omega⟩ hz hni hqc (by omega) hc1 hc2) (vx_cwSW 5 C.2.2.2.2.1 gL_law_L_quote rfl rfl rfl (by decide +kernel) ⟨Nat.le_of_ble_eq_true rfl, Nat.le_of_ble_eq_true rfl⟩) [wMA g ma m1 m2 m3 la tp qa sa ta ua kinds ni hds bc tgs, wLog g la l1 l2 l3 l4 l5 l6 l7 l8 l9 deed first second item side picked qcnt An An cm, wPal g tp tv tr vals ris cn, wQuo g qa q1 q2 q3 qi qo qs qc, wScr g sa la qa, wTab g ta tp tlo thi T T, wTab g ua tp ulo uhi Tr Tr, wMM g mm b1 b2 b3 b4 b5 b6 b7 b8 b9 b10 b11 b12 b13 b14 b15 b16 b17 kinds ni cm first second An An Tm Tm bc hds tgs qc qi qo qs cn vals Nw Nw Kw Kw cd, rO g oa fo, rD g od fd] [0, 3, 8] [1, 2, 4, 5, 6, 7, 9] [] (fun _ => [wMA g ma m1 m2 m3 la tp qa sa ta ua kinds ni hds bc tgs, wLog g la l1 l2 l3 l4 l5 l6 l7 l8 l9 deed first second item side picked qcnt An An cm, wPal g tp tv tr vals ris cn, wQuo g qa q1 q2 q3 qi qo qs qc, wScr g sa la qa, wTab g ta tp tlo thi T T, wTab g ua tp ulo uhi Tr Tr, wMM g mm b1 b2 b3 b4 b5 b6 b7 b8 b9 b10 b11 b12 b13 b14 b15 b16 b17 kinds ni cm first second An An Tm Tm bc hds tgs qc qi qo qs cn vals Nw Nw Kw Kw cd, rO g oa fo, rD g od fd]) (fun _ => wMA g ma m1 m2 m3 la tp qa sa ta ua kinds ni hds bc tgs ++ (wLog g la l1 l2 l3 l4 l5 l6 l7 l8 l9 deed first second item side picked qcnt An An cm ++ (wPal g tp tv tr vals ris cn ++ (wQuo g qa q1 q2 q3 qi qo qs qc ++ (wScr g sa la qa ++ (wTab g ta tp tlo thi T T ++ (wTab g ua tp ulo uhi Tr Tr ++ (wMM g mm b1 b2 b3 b4 b5 b6 b7 b8 b9 b10 b11 b12 b13 b14 b15 b16 b17 kinds ni cm first second An An Tm Tm bc hds tgs qc qi qo qs cn vals Nw Nw Kw Kw cd ++ (rO g oa fo ++ (rD g od fd ++ ([]))))))))))) okP_0_3_8 (fl10 _ _ _ _ _ _ _ _ _ _).symm (pkC_0_3_8 _ _ _ _ _ _ _ _ _ _) (fun _ => pkC_0_3_8 _ _ _ _ _ _ _ _ _ _) (fun _ => pkR_0_3_8 _ _ _ _ _ _ _ _ _ _ _ _ _) (fun _ => rfl) (fun _ => fl10 _ _ _ _ _ _ _ _ _ _) rfl rfl (Nat.le_of_ble_eq_true rfl) dL_law_1885 ⟨hk9r, hn9r⟩ (fun r u hr9 => ?_)
    subst hr9
    refine v_istore C [(6, .int (iI (3))), (0, .ref (b)), (1, .ref (ma)), (2, .ref (mm)), (3, .ref (oa)), (4, .ref (od)), (5, .int (iI ((4 * j : Nat) : Int)))] dL_law_1888 (by decide) rfl ?_
    refine v_aload_n C dL_law_1890 rfl 3 rfl ?_
    refine v_aload_n C dL_law_1891 rfl 1 rfl ?_
    refine v_iload C dL_law_1892 6 rfl ?_
    refine v_iconst C (z := 1) dL_law_1894 ?_
    refine v_iadd C dL_law_1895 ?_
    rw [show (((4 * j : Nat) : Int)) + 1 = (((4 * j) + 1 : Nat) : Int) from rfl]
    refine v_sld K9 ((4 * j) + 1) rfl (by omega) hxe dL_law_1896 ?_
    refine v_aload_n C dL_law_1897 rfl 1 rfl ?_
    refine v_iload C dL_law_1898 6 rfl ?_
    refine v_iconst C (z := 2) dL_law_1900 ?_
    refine v_iadd C dL_law_1901 ?_
    rw [show (((4 * j : Nat) : Int)) + 2 = (((4 * j) + 2 : Nat) : Int) from rfl]
    refine v_sld K9 ((4 * j) + 2) rfl (by omega) hye dL_law_1902 ?_
    refine v_aload_n C dL_law_1903 rfl 1 rfl ?_
    refine v_iload C dL_law_1904 6 rfl ?_
    refine v_iconst C (z := 3) dL_law_1906 ?_
    refine v_iadd C dL_law_1907 ?_
    rw [show (((4 * j : Nat) : Int)) + 3 = (((4 * j) + 3 : Nat) : Int) from rfl]
    refine v_sld K9 ((4 * j) + 3) rfl (by omega) hze dL_law_1908 ?_
    refine v_invVI C (As := [.int (iI ((x0 : Nat) : Int)), .int (iI ((y0 : Nat) : Int)), .int (iI (z))]) (q0 := 0) (ci := 6) (kX6_quote_3 l g (mm := mm) (b1 := b1) (b2 := b2) (b3 := b3) (b4 := b4) (b5 := b5) (b6 := b6) (b7 := b7) (b8 := b8) (b9 := b9) (b10 := b10) (b11 := b11) (b12 := b12) (b13 := b13) (b14 := b14) (b15 := b15) (b16 := b16) (b17 := b17) (kinds := kinds) (tgs := tgs) (first := first) (second := second) (vals := vals) (qs := qs) (hds := hds) (An := An) (qi := qi) (qo := qo) (Tm := Tm) (Nw := Nw) (Kw := Kw) (ni := ni) (bc := bc) (cm := cm) (cn := cn) (qc := qc) (cd := cd) (ris := ris) (x0 := x0) (y0 := y0) (z := z) hI (by omega) (by omega) ⟨by omega, by omega⟩ (by omega) (by omega) (by omega) (by omega)) (cwV 3 C.2.2.2.2.1 gL_law_X6_quote rfl rfl rfl (by decide +kernel) ⟨Nat.le_of_ble_eq_true rfl, Nat.le_of_ble_eq_true rfl⟩) [wMA g ma m1 m2 m3 la tp qa sa ta ua kinds ni hds bc tgs, wLog g la l1 l2 l3 l4 l5 l6 l7 l8 l9 deed first second item side picked qcnt An An cm, wPal g tp tv tr vals ris cn, wQuo g qa q1 q2 q3 qi qo qs qc, wScr g sa la qa, wTab g ta tp tlo thi T T, wTab g ua tp ulo uhi Tr Tr, wMM g mm b1 b2 b3 b4 b5 b6 b7 b8 b9 b10 b11 b12 b13 b14 b15 b16 b17 kinds ni cm first second An An Tm Tm bc hds tgs qc qi qo qs cn vals Nw Nw Kw Kw cd, rO g oa fo, rD g od fd] [7] [0, 1, 2, 3, 4, 5, 6, 8, 9] [] (fun _ => [wMA g ma m1 m2 m3 la tp qa sa ta ua kinds ni hds bc tgs, wLog g la l1 l2 l3 l4 l5 l6 l7 l8 l9 deed first second item side picked qcnt An An cm, wPal g tp tv tr vals ris cn, wQuo g qa q1 q2 q3 qi qo qs qc, wScr g sa la qa, wTab g ta tp tlo thi T T, wTab g ua tp ulo uhi Tr Tr, wMM g mm b1 b2 b3 b4 b5 b6 b7 b8 b9 b10 b11 b12 b13 b14 b15 b16 b17 kinds ni cm first second An An Tm Tm bc hds tgs qc qi qo qs cn vals Nw Nw Kw Kw 3, rO g oa fo, rD g od fd]) (fun _ => wMA g ma m1 m2 m3 la tp qa sa ta ua kinds ni hds bc tgs ++ (wLog g la l1 l2 l3 l4 l5 l6 l7 l8 l9 deed first second item side picked qcnt An An cm ++ (wPal g tp tv tr vals ris cn ++ (wQuo g qa q1 q2 q3 qi qo qs qc ++ (wScr g sa la qa ++ (wTab g ta tp tlo thi T T ++ (wTab g ua tp ulo uhi Tr Tr ++ (wMM g mm b1 b2 b3 b4 b5 b6 b7 b8 b9 b10 b11 b12 b13 b14 b15 b16 b17 kinds ni cm first second An An Tm Tm bc hds tgs qc qi qo qs cn vals Nw Nw Kw Kw 3 ++ (rO g oa fo ++ (rD g od fd ++ ([]))))))))))) okP_7 (fl10 _ _ _ _ _ _ _ _ _ _).symm (pkC_7 _ _ _ _ _ _ _ _ _ _) (fun _ => pkC_7 _ _ _ _ _ _ _ _ _ _) (fun _ => pkR_7 _ _ _ _ _ _ _ _ _ _ _) (fun _ => rfl) (fun _ => fl10 _ _ _ _ _ _ _ _ _ _) rfl rfl rfl rfl rfl (Nat.le_of_ble_eq_true rfl) dL_law_1909 ⟨hk9m, hn9m⟩ (fun r_14 _ h_13 => ?_)
    refine v_istore C [(7, .int (r_14)), (6, .int (iI (3))), (0, .ref (b)), (1, .ref (ma)), (2, .ref (mm)), (3, .ref (oa)), (4, .ref (od)), (5, .int (iI ((4 * j : Nat) : Int)))] dL_law_1912 (by decide) rfl ?_
    refine v_aload_n C dL_law_1914 rfl 4 rfl ?_
    refine v_invVI C (As := []) (q0 := 0) (ci := 6) (kX6_thrown l g (mm := mm) (b1 := b1) (b2 := b2) (b3 := b3) (b4 := b4) (b5 := b5) (b6 := b6) (b7 := b7) (b8 := b8) (b9 := b9) (b10 := b10) (b11 := b11) (b12 := b12) (b13 := b13) (b14 := b14) (b15 := b15) (b16 := b16) (b17 := b17) (kinds := kinds) (tgs := tgs) (first := first) (second := second) (vals := vals) (qs := qs) (hds := hds) (An := An) (qi := qi) (qo := qo) (Tm := Tm) (Nw := Nw) (Kw := Kw) (ni := ni) (bc := bc) (cm := cm) (cn := cn) (qc := qc) (cd := 3) (ris := ris)  ) (cwV 0 C.2.2.2.2.1 gL_law_X6_thrown rfl rfl rfl (by decide +kernel) ⟨Nat.le_of_ble_eq_true rfl, Nat.le_of_ble_eq_true rfl⟩) [wMA g ma m1 m2 m3 la tp qa sa ta ua kinds ni hds bc tgs, wLog g la l1 l2 l3 l4 l5 l6 l7 l8 l9 deed first second item side picked qcnt An An cm, wPal g tp tv tr vals ris cn, wQuo g qa q1 q2 q3 qi qo qs qc, wScr g sa la qa, wTab g ta tp tlo thi T T, wTab g ua tp ulo uhi Tr Tr, wMM g mm b1 b2 b3 b4 b5 b6 b7 b8 b9 b10 b11 b12 b13 b14 b15 b16 b17 kinds ni cm first second An An Tm Tm bc hds tgs qc qi qo qs cn vals Nw Nw Kw Kw 3, rO g oa fo, rD g od fd] [7] [0, 1, 2, 3, 4, 5, 6, 8, 9] [] (fun _ => [wMA g ma m1 m2 m3 la tp qa sa ta ua kinds ni hds bc tgs, wLog g la l1 l2 l3 l4 l5 l6 l7 l8 l9 deed first second item side picked qcnt An An cm, wPal g tp tv tr vals ris cn, wQuo g qa q1 q2 q3 qi qo qs qc, wScr g sa la qa, wTab g ta tp tlo thi T T, wTab g ua tp ulo uhi Tr Tr, wMM g mm b1 b2 b3 b4 b5 b6 b7 b8 b9 b10 b11 b12 b13 b14 b15 b16 b17 kinds ni cm first second An An Tm Tm bc hds tgs qc qi qo qs cn vals Nw Nw Kw Kw 3, rO g oa fo, rD g od fd]) (fun _ => wMA g ma m1 m2 m3 la tp qa sa ta ua kinds ni hds bc tgs ++ (wLog g la l1 l2 l3 l4 l5 l6 l7 l8 l9 deed first second item side picked qcnt An An cm ++ (wPal g tp tv tr vals ris cn ++ (wQuo g qa q1 q2 q3 qi qo qs qc ++ (wScr g sa la qa ++ (wTab g ta tp tlo thi T T ++ (wTab g ua tp ulo uhi Tr Tr ++ (wMM g mm b1 b2 b3 b4 b5 b6 b7 b8 b9 b10 b11 b12 b13 b14 b15 b16 b17 kinds ni cm first second An An Tm Tm bc hds tgs qc qi qo qs cn vals Nw Nw Kw Kw 3 ++ (rO g oa fo ++ (rD g od fd ++ ([]))))))))))) okP_7 (fl10 _ _ _ _ _ _ _ _ _ _).symm (pkC_7 _ _ _ _ _ _ _ _ _ _) (fun _ => pkC_7 _ _ _ _ _ _ _ _ _ _) (fun _ => pkR_7 _ _ _ _ _ _ _ _ _ _ _) (fun _ => rfl) (fun _ => fl10 _ _ _ _ _ _ _ _ _ _) rfl rfl rfl rfl rfl (Nat.le_of_ble_eq_true rfl) dL_law_1915 ⟨hk9m, hn9m⟩ (fun r_16 _ h_15 => ?_)
    subst h_15
    refine v_st (st' := [.int (iI (3))]) rfl ?_
    refine v_iload C dL_law_1918 1 rfl ?_
    refine v_icmp_eq C 1925 dL_law_1920 (by decide) (b31_lit _ rfl) (b31_lit _ rfl) (fun _ => ?_) (fun h => absurd h (by decide))
    refine v_iload C dL_law_1925 1 rfl ?_
    refine v_if_ne C 1942 dL_law_1927 (by decide) (b31_lit _ rfl) (fun _ => ?_) (fun h => absurd h (by decide))
    refine v_goto C 2209 dL_law_1942 (by decide) ?_
    refine v_lv (lv' := [(0, .ref (b)), (1, .ref (ma)), (2, .ref (mm)), (3, .ref (oa)), (4, .ref (od)), (5, .int (iI ((4 * j : Nat) : Int)))]) [2, 3, 4, 5, 6, 7] rfl ?_
    exact kk kinds tgs first second vals qs hds deed item side picked qcnt An ris qi qo T Tr Tm Nw Kw ni bc cm cn qc 3 fo fd hR
  refine v_aload_n C dL_law_1865 rfl 1 rfl ?_
  refine v_aload_n C dL_law_1866 rfl 0 rfl ?_
  refine v_iload C dL_law_1867 5 rfl ?_
  refine v_iconst C (z := 1) dL_law_1869 ?_
  refine v_iadd C dL_law_1870 ?_
  rw [show (((4 * j : Nat) : Int)) + 1 = (((4 * j) + 1 : Nat) : Int) from rfl]
  refine v_sld K9 ((4 * j) + 1) rfl (by omega) hxe dL_law_1871 ?_
  refine v_aload_n C dL_law_1872 rfl 0 rfl ?_
  refine v_iload C dL_law_1873 5 rfl ?_
  refine v_iconst C (z := 2) dL_law_1875 ?_
  refine v_iadd C dL_law_1876 ?_
  rw [show (((4 * j : Nat) : Int)) + 2 = (((4 * j) + 2 : Nat) : Int) from rfl]
  refine v_sld K9 ((4 * j) + 2) rfl (by omega) hye dL_law_1877 ?_
  refine v_aload_n C dL_law_1878 rfl 0 rfl ?_
  refine v_iload C dL_law_1879 5 rfl ?_
  refine v_iconst C (z := 3) dL_law_1881 ?_
  refine v_iadd C dL_law_1882 ?_
  rw [show (((4 * j : Nat) : Int)) + 3 = (((4 * j) + 3 : Nat) : Int) from rfl]
  refine v_sld K9 ((4 * j) + 3) rfl (by omega) hze dL_law_1883 ?_
  refine v_aload_n C dL_law_1884 rfl 3 rfl ?_
  refine v_lwI C hX (As := [.ref (ma), .int (iI ((x0 : Nat) : Int)), .int (iI ((y0 : Nat) : Int)), .int (iI (z)), .ref (oa)]) (kL_quote_ok l g sx hst (ma := ma) (m1 := m1) (m2 := m2) (m3 := m3) (la := la) (tp := tp) (qa := qa) (sa := sa) (ta := ta) (ua := ua) (kinds := kinds) (tgs := tgs) (hds := hds) (ni := ni) (bc := bc) (q1 := q1) (q2 := q2) (q3 := q3) (qi := qi) (qo := qo) (qs := qs) (qc := qc) (oa := oa) (fo := fo) (x := ((x0 : Nat) : Int)) (y := ((y0 : Nat) : Int)) (z := z) ⟨by omega, by omega⟩ ⟨by omega, by omega⟩ hz hni hqc (by omega) hc1 hc2) (vx_cwSW 5 C.2.2.2.2.1 gL_law_L_quote rfl rfl rfl (by decide +kernel) ⟨Nat.le_of_ble_eq_true rfl, Nat.le_of_ble_eq_true rfl⟩) [wMA g ma m1 m2 m3 la tp qa sa ta ua kinds ni hds bc tgs, wLog g la l1 l2 l3 l4 l5 l6 l7 l8 l9 deed first second item side picked qcnt An An cm, wPal g tp tv tr vals ris cn, wQuo g qa q1 q2 q3 qi qo qs qc, wScr g sa la qa, wTab g ta tp tlo thi T T, wTab g ua tp ulo uhi Tr Tr, wMM g mm b1 b2 b3 b4 b5 b6 b7 b8 b9 b10 b11 b12 b13 b14 b15 b16 b17 kinds ni cm first second An An Tm Tm bc hds tgs qc qi qo qs cn vals Nw Nw Kw Kw cd, rO g oa fo, rD g od fd] [0, 3, 8] [1, 2, 4, 5, 6, 7, 9] [] (fun _ => [wMA g ma m1 m2 m3 la tp qa sa ta ua kinds ni hds bc tgs, wLog g la l1 l2 l3 l4 l5 l6 l7 l8 l9 deed first second item side picked qcnt An An cm, wPal g tp tv tr vals ris cn, wQuo g qa q1 q2 q3 (updN qi (qc) (x0)) (updN qo (qc) (y0)) (updZ qs (qc) (z)) (qc + 1), wScr g sa la qa, wTab g ta tp tlo thi T T, wTab g ua tp ulo uhi Tr Tr, wMM g mm b1 b2 b3 b4 b5 b6 b7 b8 b9 b10 b11 b12 b13 b14 b15 b16 b17 kinds ni cm first second An An Tm Tm bc hds tgs qc qi qo qs cn vals Nw Nw Kw Kw cd, rO g oa ((vp_updL fo 0 ((iI ((qc : Nat) : Int)).toInt64))), rD g od fd]) (fun _ => wMA g ma m1 m2 m3 la tp qa sa ta ua kinds ni hds bc tgs ++ (wLog g la l1 l2 l3 l4 l5 l6 l7 l8 l9 deed first second item side picked qcnt An An cm ++ (wPal g tp tv tr vals ris cn ++ (wQuo g qa q1 q2 q3 (updN qi (qc) (x0)) (updN qo (qc) (y0)) (updZ qs (qc) (z)) (qc + 1) ++ (wScr g sa la qa ++ (wTab g ta tp tlo thi T T ++ (wTab g ua tp ulo uhi Tr Tr ++ (wMM g mm b1 b2 b3 b4 b5 b6 b7 b8 b9 b10 b11 b12 b13 b14 b15 b16 b17 kinds ni cm first second An An Tm Tm bc hds tgs qc qi qo qs cn vals Nw Nw Kw Kw cd ++ (rO g oa ((vp_updL fo 0 ((iI ((qc : Nat) : Int)).toInt64))) ++ (rD g od fd ++ ([]))))))))))) okP_0_3_8 (fl10 _ _ _ _ _ _ _ _ _ _).symm (pkC_0_3_8 _ _ _ _ _ _ _ _ _ _) (fun _ => pkC_0_3_8 _ _ _ _ _ _ _ _ _ _) (fun _ => pkR_0_3_8 _ _ _ _ _ _ _ _ _ _ _ _ _) (fun _ => rfl) (fun _ => fl10 _ _ _ _ _ _ _ _ _ _) rfl rfl (Nat.le_of_ble_eq_true rfl) dL_law_1885 ⟨hk9r, hn9r⟩ (fun r u hr9 => ?_)
  subst hr9
  refine v_istore C [(6, .int (iI (0))), (0, .ref (b)), (1, .ref (ma)), (2, .ref (mm)), (3, .ref (oa)), (4, .ref (od)), (5, .int (iI ((4 * j : Nat) : Int)))] dL_law_1888 (by decide) rfl ?_
  refine v_aload_n C dL_law_1890 rfl 3 rfl ?_
  refine v_aload_n C dL_law_1891 rfl 1 rfl ?_
  refine v_iload C dL_law_1892 6 rfl ?_
  refine v_iconst C (z := 1) dL_law_1894 ?_
  refine v_iadd C dL_law_1895 ?_
  rw [show (((4 * j : Nat) : Int)) + 1 = (((4 * j) + 1 : Nat) : Int) from rfl]
  refine v_sld K9 ((4 * j) + 1) rfl (by omega) hxe dL_law_1896 ?_
  refine v_aload_n C dL_law_1897 rfl 1 rfl ?_
  refine v_iload C dL_law_1898 6 rfl ?_
  refine v_iconst C (z := 2) dL_law_1900 ?_
  refine v_iadd C dL_law_1901 ?_
  rw [show (((4 * j : Nat) : Int)) + 2 = (((4 * j) + 2 : Nat) : Int) from rfl]
  refine v_sld K9 ((4 * j) + 2) rfl (by omega) hye dL_law_1902 ?_
  refine v_aload_n C dL_law_1903 rfl 1 rfl ?_
  refine v_iload C dL_law_1904 6 rfl ?_
  refine v_iconst C (z := 3) dL_law_1906 ?_
  refine v_iadd C dL_law_1907 ?_
  rw [show (((4 * j : Nat) : Int)) + 3 = (((4 * j) + 3 : Nat) : Int) from rfl]
  refine v_sld K9 ((4 * j) + 3) rfl (by omega) hze dL_law_1908 ?_
  refine v_invVI C (As := [.int (iI ((x0 : Nat) : Int)), .int (iI ((y0 : Nat) : Int)), .int (iI (z))]) (q0 := 0) (ci := 6) (kX6_quote_ok l g (mm := mm) (b1 := b1) (b2 := b2) (b3 := b3) (b4 := b4) (b5 := b5) (b6 := b6) (b7 := b7) (b8 := b8) (b9 := b9) (b10 := b10) (b11 := b11) (b12 := b12) (b13 := b13) (b14 := b14) (b15 := b15) (b16 := b16) (b17 := b17) (kinds := kinds) (tgs := tgs) (first := first) (second := second) (vals := vals) (qs := qs) (hds := hds) (An := An) (qi := qi) (qo := qo) (Tm := Tm) (Nw := Nw) (Kw := Kw) (ni := ni) (bc := bc) (cm := cm) (cn := cn) (qc := qc) (cd := cd) (ris := ris) (x0 := x0) (y0 := y0) (z := z) hI (by omega) (by omega) ⟨by omega, by omega⟩ (by omega) (by omega) (by omega) (by omega)) (cwV 3 C.2.2.2.2.1 gL_law_X6_quote rfl rfl rfl (by decide +kernel) ⟨Nat.le_of_ble_eq_true rfl, Nat.le_of_ble_eq_true rfl⟩) [wMA g ma m1 m2 m3 la tp qa sa ta ua kinds ni hds bc tgs, wLog g la l1 l2 l3 l4 l5 l6 l7 l8 l9 deed first second item side picked qcnt An An cm, wPal g tp tv tr vals ris cn, wQuo g qa q1 q2 q3 (updN qi (qc) (x0)) (updN qo (qc) (y0)) (updZ qs (qc) (z)) (qc + 1), wScr g sa la qa, wTab g ta tp tlo thi T T, wTab g ua tp ulo uhi Tr Tr, wMM g mm b1 b2 b3 b4 b5 b6 b7 b8 b9 b10 b11 b12 b13 b14 b15 b16 b17 kinds ni cm first second An An Tm Tm bc hds tgs qc qi qo qs cn vals Nw Nw Kw Kw cd, rO g oa ((vp_updL fo 0 ((iI ((qc : Nat) : Int)).toInt64))), rD g od fd] [7] [0, 1, 2, 3, 4, 5, 6, 8, 9] [] (fun _ => [wMA g ma m1 m2 m3 la tp qa sa ta ua kinds ni hds bc tgs, wLog g la l1 l2 l3 l4 l5 l6 l7 l8 l9 deed first second item side picked qcnt An An cm, wPal g tp tv tr vals ris cn, wQuo g qa q1 q2 q3 (updN qi (qc) (x0)) (updN qo (qc) (y0)) (updZ qs (qc) (z)) (qc + 1), wScr g sa la qa, wTab g ta tp tlo thi T T, wTab g ua tp ulo uhi Tr Tr, wMM g mm b1 b2 b3 b4 b5 b6 b7 b8 b9 b10 b11 b12 b13 b14 b15 b16 b17 kinds ni cm first second An An Tm Tm bc hds tgs (qc + 1) (updN qi (qc) (x0)) (updN qo (qc) (y0)) (updZ qs (qc) (z)) cn vals Nw Nw Kw Kw 0, rO g oa ((vp_updL fo 0 ((iI ((qc : Nat) : Int)).toInt64))), rD g od fd]) (fun _ => wMA g ma m1 m2 m3 la tp qa sa ta ua kinds ni hds bc tgs ++ (wLog g la l1 l2 l3 l4 l5 l6 l7 l8 l9 deed first second item side picked qcnt An An cm ++ (wPal g tp tv tr vals ris cn ++ (wQuo g qa q1 q2 q3 (updN qi (qc) (x0)) (updN qo (qc) (y0)) (updZ qs (qc) (z)) (qc + 1) ++ (wScr g sa la qa ++ (wTab g ta tp tlo thi T T ++ (wTab g ua tp ulo uhi Tr Tr ++ (wMM g mm b1 b2 b3 b4 b5 b6 b7 b8 b9 b10 b11 b12 b13 b14 b15 b16 b17 kinds ni cm first second An An Tm Tm bc hds tgs (qc + 1) (updN qi (qc) (x0)) (updN qo (qc) (y0)) (updZ qs (qc) (z)) cn vals Nw Nw Kw Kw 0 ++ (rO g oa ((vp_updL fo 0 ((iI ((qc : Nat) : Int)).toInt64))) ++ (rD g od fd ++ ([]))))))))))) okP_7 (fl10 _ _ _ _ _ _ _ _ _ _).symm (pkC_7 _ _ _ _ _ _ _ _ _ _) (fun _ => pkC_7 _ _ _ _ _ _ _ _ _ _) (fun _ => pkR_7 _ _ _ _ _ _ _ _ _ _ _) (fun _ => rfl) (fun _ => fl10 _ _ _ _ _ _ _ _ _ _) rfl rfl rfl rfl rfl (Nat.le_of_ble_eq_true rfl) dL_law_1909 ⟨hk9m, hn9m⟩ (fun r_18 _ h_17 => ?_)
  subst h_17
  refine v_istore C [(7, .int (iI ((qc : Nat) : Int))), (6, .int (iI (0))), (0, .ref (b)), (1, .ref (ma)), (2, .ref (mm)), (3, .ref (oa)), (4, .ref (od)), (5, .int (iI ((4 * j : Nat) : Int)))] dL_law_1912 (by decide) rfl ?_
  refine v_aload_n C dL_law_1914 rfl 4 rfl ?_
  refine v_invVI C (As := []) (q0 := 0) (ci := 6) (kX6_thrown l g (mm := mm) (b1 := b1) (b2 := b2) (b3 := b3) (b4 := b4) (b5 := b5) (b6 := b6) (b7 := b7) (b8 := b8) (b9 := b9) (b10 := b10) (b11 := b11) (b12 := b12) (b13 := b13) (b14 := b14) (b15 := b15) (b16 := b16) (b17 := b17) (kinds := kinds) (tgs := tgs) (first := first) (second := second) (vals := vals) (qs := updZ qs (qc) (z)) (hds := hds) (An := An) (qi := updN qi (qc) (x0)) (qo := updN qo (qc) (y0)) (Tm := Tm) (Nw := Nw) (Kw := Kw) (ni := ni) (bc := bc) (cm := cm) (cn := cn) (qc := qc + 1) (cd := 0) (ris := ris)  ) (cwV 0 C.2.2.2.2.1 gL_law_X6_thrown rfl rfl rfl (by decide +kernel) ⟨Nat.le_of_ble_eq_true rfl, Nat.le_of_ble_eq_true rfl⟩) [wMA g ma m1 m2 m3 la tp qa sa ta ua kinds ni hds bc tgs, wLog g la l1 l2 l3 l4 l5 l6 l7 l8 l9 deed first second item side picked qcnt An An cm, wPal g tp tv tr vals ris cn, wQuo g qa q1 q2 q3 (updN qi (qc) (x0)) (updN qo (qc) (y0)) (updZ qs (qc) (z)) (qc + 1), wScr g sa la qa, wTab g ta tp tlo thi T T, wTab g ua tp ulo uhi Tr Tr, wMM g mm b1 b2 b3 b4 b5 b6 b7 b8 b9 b10 b11 b12 b13 b14 b15 b16 b17 kinds ni cm first second An An Tm Tm bc hds tgs (qc + 1) (updN qi (qc) (x0)) (updN qo (qc) (y0)) (updZ qs (qc) (z)) cn vals Nw Nw Kw Kw 0, rO g oa ((vp_updL fo 0 ((iI ((qc : Nat) : Int)).toInt64))), rD g od fd] [7] [0, 1, 2, 3, 4, 5, 6, 8, 9] [] (fun _ => [wMA g ma m1 m2 m3 la tp qa sa ta ua kinds ni hds bc tgs, wLog g la l1 l2 l3 l4 l5 l6 l7 l8 l9 deed first second item side picked qcnt An An cm, wPal g tp tv tr vals ris cn, wQuo g qa q1 q2 q3 (updN qi (qc) (x0)) (updN qo (qc) (y0)) (updZ qs (qc) (z)) (qc + 1), wScr g sa la qa, wTab g ta tp tlo thi T T, wTab g ua tp ulo uhi Tr Tr, wMM g mm b1 b2 b3 b4 b5 b6 b7 b8 b9 b10 b11 b12 b13 b14 b15 b16 b17 kinds ni cm first second An An Tm Tm bc hds tgs (qc + 1) (updN qi (qc) (x0)) (updN qo (qc) (y0)) (updZ qs (qc) (z)) cn vals Nw Nw Kw Kw 0, rO g oa ((vp_updL fo 0 ((iI ((qc : Nat) : Int)).toInt64))), rD g od fd]) (fun _ => wMA g ma m1 m2 m3 la tp qa sa ta ua kinds ni hds bc tgs ++ (wLog g la l1 l2 l3 l4 l5 l6 l7 l8 l9 deed first second item side picked qcnt An An cm ++ (wPal g tp tv tr vals ris cn ++ (wQuo g qa q1 q2 q3 (updN qi (qc) (x0)) (updN qo (qc) (y0)) (updZ qs (qc) (z)) (qc + 1) ++ (wScr g sa la qa ++ (wTab g ta tp tlo thi T T ++ (wTab g ua tp ulo uhi Tr Tr ++ (wMM g mm b1 b2 b3 b4 b5 b6 b7 b8 b9 b10 b11 b12 b13 b14 b15 b16 b17 kinds ni cm first second An An Tm Tm bc hds tgs (qc + 1) (updN qi (qc) (x0)) (updN qo (qc) (y0)) (updZ qs (qc) (z)) cn vals Nw Nw Kw Kw 0 ++ (rO g oa ((vp_updL fo 0 ((iI ((qc : Nat) : Int)).toInt64))) ++ (rD g od fd ++ ([]))))))))))) okP_7 (fl10 _ _ _ _ _ _ _ _ _ _).symm (pkC_7 _ _ _ _ _ _ _ _ _ _) (fun _ => pkC_7 _ _ _ _ _ _ _ _ _ _) (fun _ => pkR_7 _ _ _ _ _ _ _ _ _ _ _) (fun _ => rfl) (fun _ => fl10 _ _ _ _ _ _ _ _ _ _) rfl rfl rfl rfl rfl (Nat.le_of_ble_eq_true rfl) dL_law_1915 ⟨hk9m, hn9m⟩ (fun r_20 _ h_19 => ?_)
  subst h_19
  refine v_st (st' := [.int (iI (0))]) rfl ?_
  refine v_iload C dL_law_1918 1 rfl ?_
  refine v_icmp_eq C 1925 dL_law_1920 (by decide) (b31_lit _ rfl) (b31_lit _ rfl) (fun _ => ?_) (fun h => absurd h (by decide))
  refine v_iload C dL_law_1925 1 rfl ?_
  refine v_if_ne C 1942 dL_law_1927 (by decide) (b31_lit _ rfl) (fun h => absurd h (by decide)) (fun _ => ?_)
  refine v_aload_n C dL_law_1930 rfl 5 rfl ?_
  refine v_iconst C (z := 0) dL_law_1931 ?_
  refine v_lald C 46 0 rfl rfl (by decide) (by decide) dL_law_1932 ?_
  refine v_st (st' := [.long (((iI ((qc : Nat) : Int)).toInt64))]) rfl ?_
  refine v_iload C dL_law_1933 0 rfl ?_
  refine v_i2l C dL_law_1935 (v := ((iI ((qc : Nat) : Int))).toInt64) rfl ?_
  refine v_lcmp C dL_law_1936 ?_
  refine v_ifl_eq C 1942 dL_law_1937 (by decide) (fun c_21 => ?_) (fun c_21 => ?_)
  ·
    refine v_goto C 2209 dL_law_1942 (by decide) ?_
    refine v_lv (lv' := [(0, .ref (b)), (1, .ref (ma)), (2, .ref (mm)), (3, .ref (oa)), (4, .ref (od)), (5, .int (iI ((4 * j : Nat) : Int)))]) [2, 3, 4, 5, 6, 7] rfl ?_
    exact kk kinds tgs first second vals (updZ qs (qc) (z)) hds deed item side picked qcnt An ris (updN qi (qc) (x0)) (updN qo (qc) (y0)) T Tr Tm Nw Kw ni bc cm cn (qc + 1) 0 ((vp_updL fo 0 ((iI ((qc : Nat) : Int)).toInt64))) fd (rel_quote hR hx0 hy0 (by omega) (by omega) (by omega))
  ·
    exact absurd (congrArg (fun v : Int => (iI v).toInt64) (rfl)) c_21
