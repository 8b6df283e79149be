theorem k_NC {s : State} {args : Array Value} (h : ∀ w ∈ flatC (Jvm.Cond.and given_1 narrow_1), w.before args s = true) : x_NC s := by
  intro E hE F hF hne
  refine va_Nc.of (args := args) (h (.not (.castable E F)) ?_)
  have key : ∀ E ∈ exL, ∀ F ∈ exL, E ≠ F → Cond.not (.castable E F) ∈ flatC (Jvm.Cond.and given_1 narrow_1) := by decide +kernel
  exact key E hE F hF hne
theorem k_S {s : State} {b : Nat} (h : ∀ w ∈ flatC (Jvm.Cond.and given_1 narrow_1), w.before #[Value.ref b] s = true) (ht : ∀ w ∈ lw_tbl, w.before #[Value.ref b] s = true) : ∃ sx : Nat → Nat, x_S sx s := by
  have k1 : ∀ q ∈ xTx, Cond.stringRef RX5 q.1 q.2 ∈ tables_1 := by decide +kernel
  have k2 : ∀ q ∈ xTx, Cond.exactly (.string RX5 q.1) "java/lang/String" ∈ flatC (Jvm.Cond.and given_1 narrow_1) := by decide +kernel
  have hall : ∀ i : Nat, ∃ a : Nat, ∀ q, xTx[i]? = some q → vk_R RX5 q.1 q.2 a s := fun i => by
    cases e : xTx[i]? with
    | none => exact ⟨0, fun q h => by cases h⟩
    | some q =>
      have hm := List.mem_of_getElem? e
      obtain ⟨a, ha⟩ := str_K (ht _ (List.mem_append_right _ (k1 q hm))) (h _ (k2 q hm))
      exact ⟨a, fun q2 h2 => by cases h2; exact ha⟩
  obtain ⟨sx, hsx⟩ := Classical.axiomOfChoice hall
  exact ⟨sx, fun i q hq => hsx i q hq⟩
theorem k_N {s : State} {args : Array Value} (h : ∀ w ∈ lw_tbl, w.before args s = true) : x_N s := by
  have key : ∀ w ∈ xNw, w ∈ tables_1 := by decide +kernel
  have h2 : ∀ w ∈ xNw, w.before args s = true := fun w hw => h w (List.mem_append_right _ (key w hw))
  exact ⟨va_tabs (u := s) rfl rfl (h2 _ (by decide +kernel)), va_tabs (u := s) rfl rfl (h2 _ (by decide +kernel)), va_tabs (u := s) rfl rfl (h2 _ (by decide +kernel)), va_tabs (u := s) rfl rfl (h2 _ (by decide +kernel)), va_tabs (u := s) rfl rfl (h2 _ (by decide +kernel)), va_tabs (u := s) rfl rfl (h2 _ (by decide +kernel)), va_tabs (u := s) rfl rfl (h2 _ (by decide +kernel)), va_tabs (u := s) rfl rfl (h2 _ (by decide +kernel))⟩
theorem k_Z {s : State} {b : Nat} (h : ∀ w ∈ flatC (Jvm.Cond.and given_1 narrow_1), w.before #[Value.ref b] s = true) (ht : ∀ w ∈ lw_tbl, w.before #[Value.ref b] s = true) : x_Z (fun q => s.heap.size ≤ q) s s.heap :=
  ⟨vx_Zqof (ht _ (List.mem_append_right _ (by decide +kernel))) (ht _ (List.mem_append_right _ (by decide +kernel))) (h _ (by decide +kernel)) (fun a ha => Nat.not_le.mpr ha), vx_Zqof (ht _ (List.mem_append_right _ (by decide +kernel))) (ht _ (List.mem_append_right _ (by decide +kernel))) (h _ (by decide +kernel)) (fun a ha => Nat.not_le.mpr ha)⟩
theorem k_N6 {s : State} {args : Array Value} (h : ∀ w ∈ lw_tbl, w.before args s = true) : v_N s := ⟨va_Nw.of rfl (h _ (List.mem_append_right _ (by decide +kernel))), va_Nw.of rfl (h _ (List.mem_append_right _ (by decide +kernel))), va_Nw.of rfl (h _ (List.mem_append_right _ (by decide +kernel))), va_Nw.of rfl (h _ (List.mem_append_right _ (by decide +kernel))), va_Nw.of rfl (h _ (List.mem_append_right _ (by decide +kernel))), va_Nw.of rfl (h _ (List.mem_append_right _ (by decide +kernel)))⟩
theorem uin0 : ∀ w ∈ u_ws RX0 TX0 10, w ∈ wsL_law := by decide +kernel
theorem uii0 : Cond.instantiable RX0 10 ∈ wsL_law := by decide +kernel
theorem uin1 : ∀ w ∈ u_ws RX1 TX1 3, w ∈ wsL_law := by decide +kernel
theorem uii1 : Cond.instantiable RX1 3 ∈ wsL_law := by decide +kernel
theorem uin2 : ∀ w ∈ u_ws RX2 TX2 4, w ∈ wsL_law := by decide +kernel
theorem uii2 : Cond.instantiable RX2 4 ∈ wsL_law := by decide +kernel
theorem uin3 : ∀ w ∈ u_ws RX3 TX3 2, w ∈ wsL_law := by decide +kernel
theorem uii3 : Cond.instantiable RX3 2 ∈ wsL_law := by decide +kernel
theorem uin4 : ∀ w ∈ u_ws RX4 TX4 3, w ∈ wsL_law := by decide +kernel
theorem uii4 : Cond.instantiable RX4 3 ∈ wsL_law := by decide +kernel
theorem uin5 : ∀ w ∈ u_ws RX5 TX5 11, w ∈ wsL_law := by decide +kernel
theorem uii5 : Cond.instantiable RX5 11 ∈ wsL_law := by decide +kernel
theorem uin6 : ∀ w ∈ u_ws RX6 TX6 23, w ∈ wsL_law := by decide +kernel
theorem uii6 : Cond.instantiable RX6 23 ∈ wsL_law := by decide +kernel
theorem vwCl_len : vwCl.length = 7 := rfl
/-- YOUR PART: from the entry, for every script of at most 2048 ints, the law comes to its end with true ('hflags': the launch's flags, for a law that throws: no stack traces) -/
theorem whole_start {p : Program} {e : Env} {s : State} {m : MethodId} {below : List Frame} {meth : Method} {c : Code} (l : Launch) (hflags : l.flags = flags0) {b L : Nat} {xs : Nat → Int32} (hL : L ≤ 2048) (C0 : lw_At p s m meth c b L xs) : W p l e room_1 s m #[Value.ref b] below meth c s.heap [] 0 0 (lw_Z below #[Value.ref b] s) (entryFrame m ([Value.ref b] : List Value).toArray 9) := by
  obtain ⟨hx, hb, hr, hml, hown, hts, hX, hbl, hlocks, hgv⟩ := id C0
  have hflat := flat_of_before _ hgv
  have hbA : ¬ (fun q : Nat => s.heap.size ≤ q) b := Nat.not_le.mpr hbl
  have htw : ∀ w ∈ wsL_law, w.before #[Value.ref b] s = true := fun w hw => hts w (wsL_law_in w hw)
  obtain ⟨sx, hS9⟩ := k_S hflat hts
  obtain ⟨c0, iS0, hKn0⟩ := u_known (C := RX0) (T := TX0) (N := 10) (n := 10) htw uin0 (htw _ uii0)
  obtain ⟨c1, iS1, hKn1⟩ := u_known (C := RX1) (T := TX1) (N := 3) (n := 3) htw uin1 (htw _ uii1)
  obtain ⟨c2, iS2, hKn2⟩ := u_known (C := RX2) (T := TX2) (N := 4) (n := 4) htw uin2 (htw _ uii2)
  obtain ⟨c3, iS3, hKn3⟩ := u_known (C := RX3) (T := TX3) (N := 2) (n := 2) htw uin3 (htw _ uii3)
  obtain ⟨c4, iS4, hKn4⟩ := u_known (C := RX4) (T := TX4) (N := 3) (n := 3) htw uin4 (htw _ uii4)
  obtain ⟨c5, iS5, hKn5⟩ := u_known (C := RX5) (T := TX5) (N := 11) (n := 11) htw uin5 (htw _ uii5)
  obtain ⟨c6, iS6, hKn6⟩ := u_known (C := RX6) (T := TX6) (N := 23) (n := 23) htw uin6 (htw _ uii6)
  obtain ⟨dC, dI, hKc⟩ : ∃ (dC : Nat → ClassId) (dI : Nat → Nat → Nat), ∀ (k : Nat) (q : vw_C), vwCl[k]? = some q → u_Kn s q.1 q.2.1 q.2.2 (dC k) (dI k) := by
    refine ⟨fun k => if k = 0 then c0 else if k = 1 then c1 else if k = 2 then c2 else if k = 3 then c3 else if k = 4 then c4 else if k = 5 then c5 else c6, fun k => if k = 0 then iS0 else if k = 1 then iS1 else if k = 2 then iS2 else if k = 3 then iS3 else if k = 4 then iS4 else if k = 5 then iS5 else iS6, ?_⟩
    intro k q hq
    match k, hq with
    | 0, hq => cases hq; exact hKn0
    | 1, hq => cases hq; exact hKn1
    | 2, hq => cases hq; exact hKn2
    | 3, hq => cases hq; exact hKn3
    | 4, hq => cases hq; exact hKn4
    | 5, hq => cases hq; exact hKn5
    | 6, hq => cases hq; exact hKn6
    | k + 7, hq => simp [vwCl] at hq
  obtain ⟨aC, haC⟩ := arr_K (htw (.arrayClass .char) (by decide +kernel)) (fun _ h => h)
  obtain ⟨aI, haI⟩ := arr_K (htw (.arrayClass .int) (by decide +kernel)) (fun _ h => h)
  obtain ⟨aL, haL⟩ := arr_K (htw (.arrayClass .long) (by decide +kernel)) (fun _ h => h)
  obtain ⟨aD, haD⟩ := arr_K (htw (.arrayClass .double) (by decide +kernel)) (fun _ h => h)
  have hK : v_K ((dC, dI), (aC, aI, aL, aD)) s := by
    refine ⟨⟨hKc, fun k q hq => ?_⟩, k_N6 hts⟩
    match k, hq with
    | 0, hq => cases hq; exact haC
    | 1, hq => cases hq; exact haI
    | 2, hq => cases hq; exact haL
    | 3, hq => cases hq; exact haD
    | k + 4, hq => simp [v_T] at hq
  have K9 : LCx p l s m c ((dC, dI), (aC, aI, aL, aD)) (fun q => s.heap.size ≤ q) sx b L xs := ⟨⟨hx, hb, hml, hown, htw, hK, fun _ h => h⟩, by unfold Launch.stackTraces; rw [hflags]; decide +kernel, ⟨k_N hts, hS9, k_Z hflat hts, k_NC hflat⟩, hX, hbl, hbA, hL⟩
  have hl := lv_entry ([.ref b]) (n := 9) (Nat.le_of_ble_eq_true rfl)
  rw [lg_entry_eq]
  exact law_0 hr hlocks (fun _ h => h) K9 s.heap [] _ (fun k q h => by simp at h) ⟨fun i j p q h => by simp at h, fun k q h => by simp at h⟩ va_S.rf hl
set_option maxHeartbeats 4000000 in
theorem lw_walk (l : Launch) (hflags : l.flags = flags0) (b : Addr) (xs : List Int32) : MetFree l x (headSpec (Jvm.Cond.code x code maxLocals ret :: tables_1) room_1) (lw_P b xs) (fun _ _ _ _ _ => True) lw_Q := by
  refine MetFree.of_bodyS (code := code) (maxLocals := maxLocals) (ret := ret) (by decide) ?_ ?_
  · intro args s m h hn
    obtain ⟨meth, c, h1, h2, h3, h4, h5, h6, -, -⟩ := Cond.code_spec hn (atoms_spec (ws := Jvm.Cond.code x code maxLocals ret :: tables_1) h _ List.mem_cons_self)
    exact ⟨meth, c, h1, h2, h3, h4, h5, h6⟩
  · intro p e s m args below meth c s₁ B hml0 hP _
    obtain ⟨rfl, hx, hbd, hgv⟩ := hP
    obtain ⟨scr, harrAt, hlist, hof, hsmall⟩ := hx
    obtain ⟨hcb, hkn, -, -⟩ := State.arrayAt?_spec harrAt
    have hown : s.vm.findClass R_law = some m.cls := findClass_of_methodNamed B.named
    have hts0 : ∀ c ∈ (Jvm.Cond.code x code maxLocals ret :: tables_1), c.before #[Value.ref b] s = true := atoms_spec (ws := Jvm.Cond.code x code maxLocals ret :: tables_1) B.pre
    have hts : ∀ w ∈ lw_tbl, w.before #[Value.ref b] s = true := k2_hts_sels lw_privs (fun w hw => hts0 w (List.mem_cons_of_mem _ hw)) lw_privs_ok
    have hml : c.maxLocals = 9 := B.maxLocals_eq (hts0 _ List.mem_cons_self)
    have X₀ : Stand p l e room_1 s m #[Value.ref b] below meth c s₁ [] 0 0 := Stand.of_body B
    have hh0 : s₁.heap = s.heap := by rw [B.state]; rfl
    have hsz : scr.slots.size = xs.length := by rw [← Array.length_toList, hlist, List.length_map]
    have hval : ∀ j : Nat, j < xs.length → scr.slots[j]? = some (.int (xs.getD j 0)) := fun j hj => by
      rw [← Array.getElem?_toList, hlist]
      simp [hj]
    have hbl : b < s.heap.size := (Array.getElem?_eq_some_iff.mp hcb).1
    have hX : va_X b xs.length (fun j => xs.getD j 0) s s.heap := ⟨scr, hcb, hof, hkn, hsz, hval⟩
    have K : W p l e room_1 s m #[Value.ref b] below meth c s₁.heap [] 0 0 (lw_Z below #[Value.ref b] s) (entryFrame m ([Value.ref b] : List Value).toArray 9) := by
      rw [hh0]
      exact whole_start l hflags hbd ⟨B.exec, B.bytes, B.returns, hml, hown, hts, hX, hbl, B.notSynchronized, hgv⟩
    obtain ⟨t, a1, o, b1, b2, b3⟩ := K s₁ rfl X₀
    exact ⟨t, o, a1, b1, b2, b3⟩
theorem lw_pre_spec {args : Array Value} {s : State} (h : (Jvm.Cond.and given_1 narrow_1).before args s = true) (hr : rest_1_c.before args s = true) : ∃ (b : Addr) (xs : List Int32), lw_P b xs args s := by
  have hs := flat_of_before _ h
  have hq := flat_of_before _ hr
  have hc : (Cond.count 1).before args s = true := hs _ (by decide +kernel)
  have harr : (Cond.arrayOf (.arg 0) .int).before args s = true := hs _ (by decide +kernel)
  have hle : (Cond.le (.length (.arg 0)) (.int 2048)).before args s = true := hs _ (by decide +kernel)
  have hlen : (Cond.isInt (.length (.arg 0))).before args s = true := hq _ (by decide +kernel)
  have hall : (Cond.all (.arg 0) (.isInt (.elem (.arg 0) (.index 0)))).before args s = true := hq _ (by decide +kernel)
  obtain ⟨b, xs, hb, hx⟩ := State.ints_of_pre rfl harr hlen hall
  have hsm : xs.length < 2 ^ 31 := hx.choose_spec.2.2.2
  have hev : (Term.length (.arg 0)).eval args s none [] s = some (.int xs.length.toInt32) := hx.length_eval hb
  have hv := Cond.le_ints hev (show (Term.int 2048).eval args s none [] s = some (.int 2048) from rfl)
  have hd : xs.length.toInt32 ≤ 2048 := by
    simpa [Cond.before, Cond.holds, hv] using hle
  have hN : xs.length ≤ 2048 := (Int32.ofNat_le_ofNat hsm (by decide)).mp (show Int32.ofNat xs.length ≤ Int32.ofNat 2048 from hd)
  exact ⟨b, xs, Cond.one_arg hc (show args[0]? = some (.ref b) from hb), hx, hN, h⟩
theorem lw_comes (l : Launch) (hflags : l.flags = flags0) : Comes l x (Jvm.Cond.code x code maxLocals ret :: tables_1) room_1 (fun tb e args s => Calls_1 tb e args s ∧ rest_1 tb e args s ∧ Pre_1 tb e args s)
    (fun _ _ args s o t => lw_Q args s o t) := by
  intro p e ha hc hk s m args below hf hfit hheap happ hpre
  obtain ⟨b, xs, hP⟩ := lw_pre_spec hpre.2.2 hpre.2.1
  obtain ⟨k, o, h1, h2, h3, hQ⟩ := lw_walk l hflags b xs p e ha hc hk s m args below hf ((Spec.applies_iff_loose hf).mp happ).1 hP trivial
  exact ⟨k, o, h1, h2, h3, hQ⟩
theorem lw_frame {s t : State} {o : Outcome} {args : Array Value} (h : State.butDraws s t lw_cs (fun t1 => Framed s o t1 [] 1093 17438)) :
    State.butDraws s t [Jvm.Choice.named "NaN.bits"] (fun t1 => Framed s o t1 (fieldLocs frame_1_writes args s ++ arrayLocs frame_1_arrays args s ++ staticLocs frame_1_statics s) 1093 17438) := h
theorem lw_limb (L : Cond) (hL : ∀ (args : Array Value) (s t : State), L.after args s (.returned (some (.int 1))) t = true) :
    ArmFor flags0 classFile x code maxLocals ret World_1 tables_1 room_1 Calls_1 rest_1 Pre_1
      (fun tb e a s o t => postC L tb e a s o t ∧ State.butDraws s t [Jvm.Choice.named "NaN.bits"] (fun t1 => Framed s o t1 (fieldLocs frame_1_writes a s ++ arrayLocs frame_1_arrays a s ++ staticLocs frame_1_statics s) 1093 17438)) := by
  intro l hflags _ _ p e ha hc hk s m args below hf hfit hheap happ hpre
  obtain ⟨k, o, h1, h2, h3, rfl, hF⟩ := lw_comes l hflags p e ha hc hk s m args below hf hfit hheap happ hpre
  exact ⟨k, _, h1, h2, h3, hL args s _, lw_frame hF⟩
theorem i_vc : Claimed_1_1 ∧ Claimed_1_2 := ⟨lw_limb limb_1_1 (fun args s t => by simp [limb_1_1, Cond.after, Cond.holds, Cond.value]), lw_limb limb_1_2 (fun args s t => Cond.after_iff.mpr (by
  first | (rw [show limb_1_2 = Cond.eq .result (.int 1) from rfl, Cond.eq_ints (x := 1) (y := 1) rfl rfl]; simp; done) | (simp [limb_1_2, Cond.value, Term.eval]; done)))⟩
