section GC
variable {l : Launch} {G : gt_G} {own nm : String} {cc : ByteArray} {mL : Nat} {rt : Option FieldType} {R : Room} {Z : gt_Zt} {n uc us : Nat} {pc : Nat} {lv : List (Nat × Value)} {st : List Value} {h : gt_H}
/-- what the tables say of a method that is called on an object of its own class -/
def gt_V (y : MethodName) (cc : ByteArray) (mL : Nat) (rt : Option FieldType) (np : Nat) : Prop := Cond.instanceMethod y ∈ gt_tbl ∧ Cond.selects y.cls y y ∈ gt_tbl ∧ Cond.initialized y.cls ∈ gt_tbl ∧ Cond.code y cc mL rt ∈ gt_tbl ∧ (y.cls ≠ "java/lang/invoke/MethodHandle" ∧ y.cls ≠ "java/lang/invoke/VarHandle" ∧ (parseMethodDescriptor y.desc).map (fun d => d.parameters.length) = some np) ∧ mL ≤ 21
def gt_S (y : MethodName) (cc : ByteArray) (mL : Nat) (rt : Option FieldType) (np : Nat) : Prop := Cond.static y ∈ gt_tbl ∧ Cond.initialized y.cls ∈ gt_tbl ∧ Cond.code y cc mL rt ∈ gt_tbl ∧ (y.cls ≠ "java/lang/invoke/MethodHandle" ∧ y.cls ≠ "java/lang/invoke/VarHandle" ∧ (parseMethodDescriptor y.desc).map (fun d => d.parameters.length) = some np) ∧ mL ≤ 21
def gt_I (y : MethodName) (cc : ByteArray) (mL : Nat) (np : Nat) : Prop := y.name = "<init>" ∧ Cond.instanceMethod y ∈ gt_tbl ∧ Cond.initialized y.cls ∈ gt_tbl ∧ Cond.code y cc mL none ∈ gt_tbl ∧ (y.cls ≠ "java/lang/invoke/MethodHandle" ∧ y.cls ≠ "java/lang/invoke/VarHandle" ∧ (parseMethodDescriptor y.desc).map (fun d => d.parameters.length) = some np) ∧ mL ≤ 21
/-- the room of a call -/
def gt_rc (R : Room) (d uc us mc ms : Nat) : Prop := d + 1 ≤ R.frames ∧ 40 * (d + 1) ≤ R.locals ∧ uc + mc ≤ R.cells ∧ us + ms ≤ R.slots
theorem gt_rc0 {d d' : Nat} (hd : d' + 1 ≤ d) : gt_rc (gt_rm d 0 0) d' 0 0 0 0 := ⟨hd, by show 40 * (d' + 1) ≤ 40 * d; omega, Nat.le_refl _, Nat.le_refl _⟩
theorem gt_rc1 {d d' mc ms uc us c s : Nat} (hd : d' + 1 ≤ d) (h1 : uc + c ≤ mc) (h2 : us + s ≤ ms) : gt_rc (gt_rm d mc ms) d' uc us c s := ⟨hd, by show 40 * (d' + 1) ≤ 40 * d; omega, h1, h2⟩
theorem gt_room {d mc ms : Nat} (hd : 1 ≤ d) : 1 ≤ (gt_rm d mc ms).frames ∧ 40 ≤ (gt_rm d mc ms).locals ∧ 0 ≤ (gt_rm d mc ms).cells ∧ 0 ≤ (gt_rm d mc ms).slots := ⟨hd, by show 40 ≤ 40 * d; omega, Nat.zero_le _, Nat.zero_le _⟩
theorem gt_pre {y : MethodName} {as : List Value} {s : State} {H : Heap} (hR : gt_R G n h H) (hK : gt_K G s) : ∀ U : State, U.heap = H → s.WarmedH U.vm → gt_P G n as h (as.map (gt_v G)).toArray U := fun U hU hW => ⟨rfl, by rw [hU]; exact hR, gt_K_warm hW hK⟩
/-- behind a call: the machine goes on with the callee's answer and heap -/
theorem gt_goes {p : Program} {e : Env} {s : State} {m : MethodId} {args : Array Value} {below : List Frame} {meth : Method} {c : Code} {H : Heap} {locs : List Loc} {ls : Array Slot} {st0 rest : List Value} {a0 : Array Value} {mc ms n1 : Nat} {r : Option Value} {h' : gt_H} {Q : State → Prop}
    (hrun : va_Run p l e R s m args below meth c H locs uc us mc ms (F0 m pc ls st0) rest (gt_Q G n1 r h' a0) (fun q => gt_B G ≤ q)) (hL : ∀ q ∈ locs, gt_B G ≤ q.base)
    (kk : ∀ (H1 : Heap) (locs1 : List Loc), gt_R G n1 h' H1 → (∀ q ∈ locs1, gt_B G ≤ q.base) → W p l e R s m args below meth c H1 locs1 (uc + mc) (us + ms) Q (F0 m (pc + 3) ls ((r.map (gt_v G)).toList ++ rest))) : W p l e R s m args below meth c H locs uc us Q (F0 m pc ls st0) := by
  intro T hT X
  obtain ⟨v, st₀, t, T', L, h0, X', hL1, e1, e2, ⟨hv, hR1⟩, stp⟩ := hrun T hT X
  cases hv
  obtain ⟨t2, a1, b1⟩ := kk T'.heap (locs ++ L) (by rw [e1]; exact hR1) (fun q hq => by
    rcases List.mem_append.mp hq with hq | hq
    · exact hL q hq
    · exact hL1 q hq) T' rfl X'
  exact ⟨t2, stp t2 a1, b1⟩
theorem gt_roomF {st : List Value} {m : MethodId} {ls : Array Slot} {rest : List Value} (hs : (st.map fun v => v.category).sum ≤ 8) : 2 * (F0 m pc ls rest).monitorRoom + ((st.map (gt_v G)).map fun v => v.category).sum ≤ 8 := by
  rw [gt_catsum]
  have := lv_room (m := m) (pc := pc) (ls := ls) (rest := rest) hs
  exact this
theorem gt_map_toList (r : Option Value) (st : List Value) : (r.map (gt_v G)).toList ++ st.map (gt_v G) = (r.toList ++ st).map (gt_v G) := by cases r <;> simp
theorem ga_callV (As : List Value) {idx b ci d' mc' ms' mL' : Nat} {y : MethodName} {cc' : ByteArray} {rt' : Option FieldType} {fs : List Value} {q : vw_C} {r : Option Value} {h' : gt_H} (hl1 : Cond.methodLink own idx y ∈ gt_tbl) (hV : gt_V y cc' mL' rt' As.length) (hC : gt_C l G y cc' mL' rt' d' mc' ms' n (.ref b :: As) h r h') (ho : h b = some (oO ci fs)) (hq : vwCl[ci]? = some q) (hqn : q.1 = y.cls) (hroom : gt_rc R d' uc us mc' ms') (hs : (st.map fun v => v.category).sum ≤ 8) (hd : decode cc pc = .ok (.invokevirtual idx, 3))
    (kk : gt_A l G own nm cc mL rt R Z (n + mc', uc + mc', us + ms') (pc + 3) lv (r.toList ++ st) h') : gt_A l G own nm cc mL rt R Z (n, uc, us) pc lv (As.reverse ++ .ref b :: st) h :=
  fun p e s m args below meth c H locs ls X hR hL hl => by
    obtain ⟨v1, v2, v3, v4, v5, v6⟩ := hV
    have hts := X.2.2.2.2.2.2.2.1
    have hK := X.2.2.2.2.2.2.2.2
    have cw : CallW R s args own y.cls idx y cc' mL' rt' (.code y cc' mL' rt' :: gt_tbl) (gt_rm d' mc' ms') mc' ms' As.length :=
      ⟨callB_of As.length hts (gt_tbl_good v4) rfl rfl rfl (hts _ v3) (hts _ hl1) v5 ⟨hroom.1, by have := hroom.2.1; show 8 + (mL' + 11) + 40 * d' ≤ _; omega⟩, hts _ v1, hts _ v2⟩
    have hrec := va_recv hK.1 (gt_R_P hR ho) hq (q0 := 0) (a := gt_ad G b) (fs := fs.map (gt_v G)) rfl
    rw [hqn] at hrec
    have hrun := va_runV (g := F0 m pc ls (((As.map (gt_v G)).reverse) ++ .ref (gt_ad G b) :: st.map (gt_v G))) (locs := locs) (below := below) (meth := meth) (e := e) (H := H) ⟨X.1, X.2.1, X.2.2.1, X.2.2.2.2.2.1, hts⟩ hC cw (b := gt_ad G b) (As := As.map (gt_v G)) ⟨gt_P_blind G n _ h, hrec, gt_pre (y := y) (as := .ref b :: As) hR hK⟩ rfl (by rw [List.length_map]) hl.1 (rest := st.map (gt_v G)) rfl (gt_roomF hs) hd ⟨hroom.2.2.1, hroom.2.2.2⟩
    have e1 : (As.reverse ++ .ref b :: st).map (gt_v G) = ((As.map (gt_v G)).reverse) ++ .ref (gt_ad G b) :: st.map (gt_v G) := by rw [List.map_append, List.map_reverse]; rfl
    rw [e1]
    refine gt_goes hrun hL (fun H1 locs1 hR1 hL1 => ?_)
    rw [gt_map_toList]
    exact kk p e s m args below meth c H1 locs1 ls X hR1 hL1 hl
theorem ga_callS (As : List Value) {idx d' mc' ms' mL' : Nat} {y : MethodName} {cc' : ByteArray} {rt' : Option FieldType} {r : Option Value} {h' : gt_H} (hl1 : Cond.methodLink own idx y ∈ gt_tbl) (hV : gt_S y cc' mL' rt' As.length) (hC : gt_C l G y cc' mL' rt' d' mc' ms' n As h r h') (hroom : gt_rc R d' uc us mc' ms') (hs : (st.map fun v => v.category).sum ≤ 8) (hd : decode cc pc = .ok (.invokestatic idx, 3))
    (kk : gt_A l G own nm cc mL rt R Z (n + mc', uc + mc', us + ms') (pc + 3) lv (r.toList ++ st) h') : gt_A l G own nm cc mL rt R Z (n, uc, us) pc lv (As.reverse ++ st) h :=
  fun p e s m args below meth c H locs ls X hR hL hl => by
    obtain ⟨v1, v3, v4, v5, v6⟩ := hV
    have hts := X.2.2.2.2.2.2.2.1
    have hK := X.2.2.2.2.2.2.2.2
    have cw : CallB R s args own idx y cc' mL' rt' (.code y cc' mL' rt' :: gt_tbl) (gt_rm d' mc' ms') mc' ms' As.length ∧ (Cond.static y).before args s = true :=
      ⟨callB_of As.length hts (gt_tbl_good v4) rfl rfl rfl (hts _ v3) (hts _ hl1) v5 ⟨hroom.1, by have := hroom.2.1; show 8 + (mL' + 11) + 40 * d' ≤ _; omega⟩, hts _ v1⟩
    have hrun := va_runS (g := F0 m pc ls (((As.map (gt_v G)).reverse) ++ st.map (gt_v G))) (locs := locs) (below := below) (meth := meth) (e := e) (H := H) ⟨X.1, X.2.1, X.2.2.1, X.2.2.2.2.2.1, hts⟩ hC cw (As := As.map (gt_v G)) ⟨gt_P_blind G n _ h, gt_pre (y := y) (as := As) hR hK⟩ rfl (by rw [List.length_map]) hl.1 (rest := st.map (gt_v G)) rfl (gt_roomF hs) hd ⟨hroom.2.2.1, hroom.2.2.2⟩
    have e1 : (As.reverse ++ st).map (gt_v G) = ((As.map (gt_v G)).reverse) ++ st.map (gt_v G) := by rw [List.map_append, List.map_reverse]
    rw [e1]
    refine gt_goes hrun hL (fun H1 locs1 hR1 hL1 => ?_)
    rw [gt_map_toList]
    exact kk p e s m args below meth c H1 locs1 ls X hR1 hL1 hl
/-- a constructor without arguments: of a class whose constructor the caller may see -/
theorem ga_callI {idx b d' mc' ms' mL' : Nat} {y : MethodName} {cc' : ByteArray} {h' : gt_H} (hl1 : Cond.methodLink own idx y ∈ gt_tbl) (hV : gt_I y cc' mL' 0) (hC : gt_C l G y cc' mL' none d' mc' ms' n [.ref b] h none h') (hroom : gt_rc R d' uc us mc' ms') (hs : (st.map fun v => v.category).sum ≤ 8) (hd : decode cc pc = .ok (.invokespecial idx, 3))
    (kk : gt_A l G own nm cc mL rt R Z (n + mc', uc + mc', us + ms') (pc + 3) lv st h') : gt_A l G own nm cc mL rt R Z (n, uc, us) pc lv (.ref b :: st) h :=
  fun p e s m args below meth c H locs ls X hR hL hl => by
    obtain ⟨v0, v1, v3, v4, v5, v6⟩ := hV
    have hts := X.2.2.2.2.2.2.2.1
    have hK := X.2.2.2.2.2.2.2.2
    have cw : CallB R s args own idx y cc' mL' none (.code y cc' mL' none :: gt_tbl) (gt_rm d' mc' ms') mc' ms' 0 ∧ y.name = "<init>" ∧ (Cond.instanceMethod y).before args s = true :=
      ⟨callB_of 0 hts (gt_tbl_good v4) rfl rfl rfl (hts _ v3) (hts _ hl1) v5 ⟨hroom.1, by have := hroom.2.1; show 8 + (mL' + 11) + 40 * d' ≤ _; omega⟩, v0, hts _ v1⟩
    have hrun := va_runI (g := F0 m pc ls (.ref (gt_ad G b) :: st.map (gt_v G))) (locs := locs) (below := below) (meth := meth) (e := e) (H := H) ⟨X.1, X.2.1, X.2.2.1, X.2.2.2.2.2.1, hts⟩ hC cw (b := gt_ad G b) (As := []) ⟨gt_P_blind G n _ h, gt_pre (y := y) (as := [.ref b]) hR hK⟩ rfl rfl hl.1 (rest := st.map (gt_v G)) rfl (gt_roomF hs) hd ⟨hroom.2.2.1, hroom.2.2.2⟩
    exact gt_goes hrun hL (fun H1 locs1 hR1 hL1 => kk p e s m args below meth c H1 locs1 ls X hR1 hL1 hl)
theorem ga_callN {idx b d' mc' ms' mL' : Nat} {y : MethodName} {host : String} {cc' : ByteArray} {h' : gt_H} (hl1 : (own, idx, y, host) ∈ gt_nest) (hV : gt_I y cc' mL' 0) (hC : gt_C l G y cc' mL' none d' mc' ms' n [.ref b] h none h') (hroom : gt_rc R d' uc us mc' ms') (hs : (st.map fun v => v.category).sum ≤ 8) (hd : decode cc pc = .ok (.invokespecial idx, 3))
    (kk : gt_A l G own nm cc mL rt R Z (n + mc', uc + mc', us + ms') (pc + 3) lv st h') : gt_A l G own nm cc mL rt R Z (n, uc, us) pc lv (.ref b :: st) h :=
  fun p e s m args below meth c H locs ls X hR hL hl => by
    obtain ⟨v0, v1, v3, v4, v5, v6⟩ := hV
    have hts := X.2.2.2.2.2.2.2.1
    have hK := X.2.2.2.2.2.2.2.2
    have cw : va_CN R s args own idx y host cc' mL' none (.code y cc' mL' none :: gt_tbl) (gt_rm d' mc' ms') mc' ms' 0 ∧ y.name = "<init>" ∧ (Cond.instanceMethod y).before args s = true :=
      ⟨va_cnB 0 hts (gt_tbl_good v4) rfl rfl rfl (hK.2.2.2.1 _ hl1) (hts _ v3) v5 ⟨hroom.1, by have := hroom.2.1; show 8 + (mL' + 11) + 40 * d' ≤ _; omega⟩, v0, hts _ v1⟩
    have hrun := va_runIN (g := F0 m pc ls (.ref (gt_ad G b) :: st.map (gt_v G))) (locs := locs) (below := below) (meth := meth) (e := e) (H := H) ⟨X.1, X.2.1, X.2.2.1, X.2.2.2.2.2.1, hts⟩ hC cw (b := gt_ad G b) (As := []) ⟨gt_P_blind G n _ h, gt_pre (y := y) (as := [.ref b]) hR hK⟩ rfl rfl hl.1 (rest := st.map (gt_v G)) rfl (gt_roomF hs) hd ⟨hroom.2.2.1, hroom.2.2.2⟩
    exact gt_goes hrun hL (fun H1 locs1 hR1 hL1 => kk p e s m args below meth c H1 locs1 ls X hR1 hL1 hl)
theorem ga_objInit {idx b : Nat} (h1 : Cond.methodLink own idx Lib.objectInit ∈ gt_tbl) (h2 : Cond.instanceMethod Lib.objectInit ∈ gt_tbl ∧ Cond.code Lib.objectInit ⟨#[0xb1]⟩ 1 none ∈ gt_tbl) (hr : 1 ≤ R.frames ∧ 40 ≤ R.locals) (hs : (st.map fun v => v.category).sum ≤ 8) (hd : decode cc pc = .ok (.invokespecial idx, 3)) (kk : gt_A l G own nm cc mL rt R Z (n, uc, us) (pc + 3) lv st h) : gt_A l G own nm cc mL rt R Z (n, uc, us) pc lv (.ref b :: st) h :=
  fun p e s m args below meth c H locs ls X hR hL hl => by
    have hts := X.2.2.2.2.2.2.2.1
    refine W.objInit X.1 X.2.1 X.2.2.2.2.2.1 (hts _ h1) (hts _ h2.1) (hts _ h2.2) rfl (by rw [X.2.2.1]; exact hl.1) rfl hd hr.1 ?_ ?_
    · have := gt_roomF (G := G) (m := m) (pc := pc) (ls := ls) (rest := [.ref (gt_ad G b)]) hs
      have h3 := hr.2
      have h4 : 2 * (F0 m pc ls (gt_v G (.ref b) :: st.map (gt_v G))).monitorRoom + ((st.map (gt_v G)).map fun v => v.category).sum ≤ 8 := gt_roomF (G := G) hs
      exact Nat.le_trans (Nat.add_le_add_right h4 12) (by omega)
    · exact kk p e s m args below meth c H locs ls X hR hL hl
end GC
