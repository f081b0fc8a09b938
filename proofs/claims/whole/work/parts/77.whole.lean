/-- the classes, as the tables have them -/
theorem gt_kn {own : String} {idx ci M : Nat} {fs : List Value} (h : gt_Nw own idx ci M fs) {s : State} {args : Array Value} (hts : ∀ w ∈ lw_tbl, w.before args s = true) : ∃ (cc : ClassId) (ii : Nat → Nat), ∀ q : vw_C, vwCl[ci]? = some q → u_Kn s q.1 q.2.1 q.2.2 cc ii := by
  obtain ⟨C, T, ty0, hcl, h1, h2, h3, hin, hty, hdf⟩ := h
  obtain ⟨cc, ii, hK⟩ := u_known (C := C) (T := T) (N := M) (n := M) hts (fun w hw => gt_tbl_lw (hin w hw)) (hts _ (gt_tbl_lw h2))
  exact ⟨cc, ii, fun q hq => by
    have e := Option.some.inj (hcl.symm.trans hq)
    subst e
    exact hK⟩
theorem gt_kns {s : State} {args : Array Value} (hts : ∀ w ∈ lw_tbl, w.before args s = true) : ∀ k : Nat, ∃ (cc : ClassId) (ii : Nat → Nat), ∀ q : vw_C, vwCl[k]? = some q → u_Kn s q.1 q.2.1 q.2.2 cc ii
  | 0 => gt_kn kn_X9_16 hts
  | 1 => gt_kn kn_X9_49 hts
  | 2 => gt_kn kn_X9_43 hts
  | 3 => gt_kn kn_X9_56 hts
  | 4 => gt_kn kn_X9_36 hts
  | 5 => gt_kn kn_X9_63 hts
  | 6 => gt_kn kn_X9_7 hts
  | 7 => gt_kn kn_X9_70 hts
  | 8 => gt_kn kn_X9_26 hts
  | 9 => gt_kn kn_L_7 hts
  | 10 => gt_kn kn_L_10 hts
  | k + 11 => ⟨0, fun _ => 0, fun q hq => by cases hq⟩
theorem gt_wn : ∀ q ∈ gt_nest, Cond.methodLinkNest q.1 q.2.1 q.2.2.1 q.2.2.2 ∈ lw_tbl := by decide +kernel
theorem gt_wS : Cond.arrayOver (.object "GurdyTide$State") ∈ lw_tbl := by decide +kernel
theorem gt_wI : Cond.arrayOver (.object "GurdyTide$Image") ∈ lw_tbl := by decide +kernel
theorem gt_wA : Cond.arrayOver (.array .int) ∈ lw_tbl := by decide +kernel
theorem whole_start {p : Program} {e : Env} {s : State} {m : MethodId} {below : List Frame} {meth : Method} {c : Code} (l : Launch) {b L : Nat} {xs : Nat → Int32} (hL : L ≤ 320) (C0 : lw_At p s m meth c b L xs) : W p l e room_1 s m #[Value.ref b] below meth c s.heap [] 0 0 (lw_Z below #[Value.ref b] s) (entryFrame m ([Value.ref b] : List Value).toArray 4) := by
  obtain ⟨hx, hb, hr, hml, hown, hts, hX, hbl, hlocks, hgv⟩ := id C0
  obtain ⟨cI, kI, pI, fI, gI, dI⟩ := Cond.arrayClass_spec (hts _ (gt_tbl_lw karrI))
  obtain ⟨cZ, kZ, pZ, fZ, gZ, dZ⟩ := Cond.arrayClass_spec (hts _ (gt_tbl_lw karrZ))
  obtain ⟨pS, cS, kS, s1, s2, s3, s4, s5⟩ := Cond.arrayOver_spec (hts _ gt_wS)
  obtain ⟨pM, cM, kM, m1, m2, m3, m4, m5⟩ := Cond.arrayOver_spec (hts _ gt_wI)
  obtain ⟨pA, cA, kA, a1, a2, a3, a4, a5⟩ := arrayOverA_spec (hts _ gt_wA)
  obtain ⟨G, hG⟩ : ∃ G : gt_G, G = ((fun k => (gt_kns hts k).choose, fun k => (gt_kns hts k).choose_spec.choose), (fun k => if k = 0 then cI else if k = 1 then cZ else if k = 2 then cS else if k = 3 then cM else cA), b, s.heap, L, xs) := ⟨_, rfl⟩
  have g0 : G.2.1 0 = cI := by rw [hG]; rfl
  have g1 : G.2.1 1 = cZ := by rw [hG]; rfl
  have g2 : G.2.1 2 = cS := by rw [hG]; rfl
  have g3 : G.2.1 3 = cM := by rw [hG]; rfl
  have g4 : G.2.1 4 = cA := by rw [hG]; rfl
  have hKc : ∀ (k : Nat) (q : vw_C), vwCl[k]? = some q → u_Kn s q.1 q.2.1 q.2.2 (G.1.1 k) (G.1.2 k) := by
    rw [hG]
    exact fun k q hq => (gt_kns hts k).choose_spec.choose_spec q hq
  have hKa : ∀ (k : Nat) (q : ClassId × FieldType), (gt_tys G)[k]? = some q → ArrOfT s q.1 q.2 ∧ va_RA s q.1 q.2 := by
    unfold gt_tys
    rw [g0, g1, g2, g3, g4]
    intro k q hq
    match k, hq with
    | 0, hq => cases hq; exact ⟨fun N z => ⟨(fun k h => by cases h), kI, gI, pI, dI⟩, fI⟩
    | 1, hq => cases hq; exact ⟨fun N z => ⟨(fun k h => by cases h), kZ, gZ, pZ, dZ⟩, fZ⟩
    | 2, hq => cases hq; exact ⟨fun N z => ⟨(fun k h => by cases h), kS, s3, pS, s4⟩, kS, pS, s3, s4, s1, s5⟩
    | 3, hq => cases hq; exact ⟨fun N z => ⟨(fun k h => by cases h), kM, m3, pM, m4⟩, kM, pM, m3, m4, m1, m5⟩
    | 4, hq => cases hq; exact ⟨fun N z => ⟨(fun k h => by cases h), kA, a3, pA, a4⟩, a5⟩
    | k + 5, hq => cases hq
  have e1 : G.2.2.1 = b := by rw [hG]
  have e2 : G.2.2.2.1 = s.heap := by rw [hG]
  have e3 : G.2.2.2.2.1 = L := by rw [hG]
  have e4 : G.2.2.2.2.2 = xs := by rw [hG]
  have hK : gt_K G s := ⟨⟨hKc, hKa⟩, by rw [e1, e2, e3, e4]; exact hX, by show G.2.2.1 < G.2.2.2.1.size; rw [e1, e2]; exact hbl, fun q hq => va_Nw.of rfl (hts _ (gt_wn q hq)), va_AO.of (hts _ gt_wS), va_AO.of (hts _ gt_wI), hts _ gt_wA⟩
  have hl := lv_entry ([.ref b]) (n := 4) (Nat.le_of_ble_eq_true rfl)
  rw [lg_entry_eq]
  generalize (lg_sl ([.ref b]) ++ List.replicate (4 - (lg_sl ([.ref b])).length) Slot.unset).toArray = ls at hl ⊢
  have hl : lv_has ls 4 (gt_lm G [(0, .ref 0)]) := by
    show lv_has ls 4 [(0, .ref G.2.2.1)]
    rw [e1]
    exact hl
  have hR : gt_R G 0 (gt_lst []) s.heap := ⟨fun k o q => (by cases k <;> cases q), by show s.heap.size = G.2.2.2.1.size + 0; rw [e2]; rfl, fun q _ => by rw [e2]⟩
  have hXX : gt_X G RL meth.name cL_law 4 (some .boolean) p s m #[Value.ref b] meth c := ⟨hx, hb, hml, hr, hlocks, hown, rfl, fun w hw => hts w (gt_tbl_lw hw), hK⟩
  have k := law_main (l := l) (G := G) (nm := meth.name) (by rw [e3]; exact hL) p e s m #[Value.ref b] below meth c s.heap [] ls hXX hR (fun q hq => by cases hq) hl
  intro T hT X1
  obtain ⟨t, b1, b2⟩ := k T hT X1
  exact ⟨t, b1, b2 (by rw [e1]) (by show s.heap.size ≤ G.2.2.2.1.size; rw [e2]; exact Nat.le_refl _)⟩
set_option maxHeartbeats 4000000 in
theorem lw_walk (l : Launch) (b : Addr) (xs : List Int32) : MetFree l x (headSpec (Jvm.Cond.code x code maxLocals ret :: tables_1) room_1) (lw_P b xs) (fun _ _ _ _ _ => True) lw_Q := by
  refine MetFree.of_bodyS (code := code) (maxLocals := maxLocals) (ret := ret) (by decide) ?_ ?_
  · intro args s m h hn
    obtain ⟨meth, c, h1, h2, h3, h4, h5, h6, -, -⟩ := Cond.code_spec hn (atoms_spec (ws := Jvm.Cond.code x code maxLocals ret :: tables_1) h _ List.mem_cons_self)
    exact ⟨meth, c, h1, h2, h3, h4, h5, h6⟩
  · intro p e s m args below meth c s₁ B hml0 hP _
    obtain ⟨rfl, hx, hbd, hgv⟩ := hP
    obtain ⟨scr, harrAt, hlist, hof, hsmall⟩ := hx
    obtain ⟨hcb, hkn, -, -⟩ := State.arrayAt?_spec harrAt
    have hown : s.vm.findClass R_law = some m.cls := findClass_of_methodNamed B.named
    have hts0 : ∀ c ∈ (Jvm.Cond.code x code maxLocals ret :: tables_1), c.before #[Value.ref b] s = true := atoms_spec (ws := Jvm.Cond.code x code maxLocals ret :: tables_1) B.pre
    have hts : ∀ w ∈ lw_tbl, w.before #[Value.ref b] s = true := k2_hts_sels lw_privs (fun w hw => hts0 w (List.mem_cons_of_mem _ hw)) lw_privs_ok
    have hml : c.maxLocals = 4 := B.maxLocals_eq (hts0 _ List.mem_cons_self)
    have X₀ : Stand p l e room_1 s m #[Value.ref b] below meth c s₁ [] 0 0 := Stand.of_body B
    have hh0 : s₁.heap = s.heap := by rw [B.state]; rfl
    have hsz : scr.slots.size = xs.length := by rw [← Array.length_toList, hlist, List.length_map]
    have hval : ∀ j : Nat, j < xs.length → scr.slots[j]? = some (.int (xs.getD j 0)) := fun j hj => by
      rw [← Array.getElem?_toList, hlist]
      simp [hj]
    have hbl : b < s.heap.size := (Array.getElem?_eq_some_iff.mp hcb).1
    have hX : va_X b xs.length (fun j => xs.getD j 0) s s.heap := ⟨scr, hcb, hof, hkn, hsz, hval⟩
    have K : W p l e room_1 s m #[Value.ref b] below meth c s₁.heap [] 0 0 (lw_Z below #[Value.ref b] s) (entryFrame m ([Value.ref b] : List Value).toArray 4) := by
      rw [hh0]
      exact whole_start l hbd ⟨B.exec, B.bytes, B.returns, hml, hown, hts, hX, hbl, B.notSynchronized, hgv⟩
    obtain ⟨t, a1, o, b1, b2, b3⟩ := K s₁ rfl X₀
    exact ⟨t, o, a1, b1, b2, b3⟩
theorem lw_pre_spec {args : Array Value} {s : State} (h : (Jvm.Cond.and given_1 narrow_1).before args s = true) (hr : rest_1_c.before args s = true) : ∃ (b : Addr) (xs : List Int32), lw_P b xs args s := by
  have hs := flat_of_before _ h
  have hq := flat_of_before _ hr
  have hc : (Cond.count 1).before args s = true := hs _ (by decide +kernel)
  have harr : (Cond.arrayOf (.arg 0) .int).before args s = true := hs _ (by decide +kernel)
  have hle : (Cond.le (.length (.arg 0)) (.int 320)).before args s = true := hs _ (by decide +kernel)
  have hlen : (Cond.isInt (.length (.arg 0))).before args s = true := hq _ (by decide +kernel)
  have hall : (Cond.all (.arg 0) (.isInt (.elem (.arg 0) (.index 0)))).before args s = true := hq _ (by decide +kernel)
  obtain ⟨b, xs, hb, hx⟩ := State.ints_of_pre rfl harr hlen hall
  have hsm : xs.length < 2 ^ 31 := hx.choose_spec.2.2.2
  have hev : (Term.length (.arg 0)).eval args s none [] s = some (.int xs.length.toInt32) := hx.length_eval hb
  have hv := Cond.le_ints hev (show (Term.int 320).eval args s none [] s = some (.int 320) from rfl)
  have hd : xs.length.toInt32 ≤ 320 := by
    simpa [Cond.before, Cond.holds, hv] using hle
  have hN : xs.length ≤ 320 := (Int32.ofNat_le_ofNat hsm (by decide)).mp (show Int32.ofNat xs.length ≤ Int32.ofNat 320 from hd)
  exact ⟨b, xs, Cond.one_arg hc (show args[0]? = some (.ref b) from hb), hx, hN, h⟩
theorem lw_comes (l : Launch) : Comes l x (Jvm.Cond.code x code maxLocals ret :: tables_1) room_1 (fun tb e args s => Calls_1 tb e args s ∧ rest_1 tb e args s ∧ Pre_1 tb e args s)
    (fun _ _ args s o t => lw_Q args s o t) := by
  intro p e ha hc hk s m args below hf hfit hheap happ hpre
  obtain ⟨b, xs, hP⟩ := lw_pre_spec hpre.2.2 hpre.2.1
  obtain ⟨k, o, h1, h2, h3, hQ⟩ := lw_walk l b xs p e ha hc hk s m args below hf ((Spec.applies_iff_loose hf).mp happ).1 hP trivial
  exact ⟨k, o, h1, h2, h3, hQ⟩
theorem lw_frame {s t : State} {o : Outcome} {args : Array Value} (h : Framed s o t [] 600000 7302250) :
    Framed s o t (fieldLocs frame_1_writes args s ++ arrayLocs frame_1_arrays args s ++ staticLocs frame_1_statics s) 600000 7302250 := h
theorem lw_limb (L : Cond) (hL : ∀ (args : Array Value) (s t : State), L.after args s (.returned (some (.int 1))) t = true) :
    ArmFor flags0 classFile x code maxLocals ret World_1 tables_1 room_1 Calls_1 rest_1 Pre_1
      (fun tb e a s o t => postC L tb e a s o t ∧ Framed s o t (fieldLocs frame_1_writes a s ++ arrayLocs frame_1_arrays a s ++ staticLocs frame_1_statics s) 600000 7302250) := by
  intro l _ _ _ p e ha hc hk s m args below hf hfit hheap happ hpre
  obtain ⟨k, o, h1, h2, h3, rfl, hF⟩ := lw_comes l p e ha hc hk s m args below hf hfit hheap happ hpre
  exact ⟨k, _, h1, h2, h3, hL args s _, lw_frame hF⟩
theorem i_vc : Claimed_1_1 ∧ Claimed_1_2 := ⟨lw_limb limb_1_1 (fun args s t => by simp [limb_1_1, Cond.after, Cond.holds, Cond.value]), lw_limb limb_1_2 (fun args s t => Cond.after_iff.mpr (by
  first | (rw [show limb_1_2 = Cond.eq .result (.int 1) from rfl, Cond.eq_ints (x := 1) (y := 1) rfl rfl]; simp; done) | (simp [limb_1_2, Cond.value, Term.eval]; done)))⟩
