/-! THE ABSTRACT MACHINE: a heap of objects numbered from 1, each at the machine's address 'first new cell + number - 1' (0: the script); a body's judgement gt_A over it, a row an instruction; a method's contract gt_C -/
abbrev gt_G : Type := va_G × (Nat → ClassId) × Nat × Heap × Nat × (Nat → Int32)
abbrev gt_Ob : Type := (Nat × (Nat → Int32)) ⊕ (Nat × (Nat → Int32)) ⊕ (Nat × Nat × (Nat → Option Nat)) ⊕ (Nat × List Value)
abbrev gt_H : Type := Nat → Option gt_Ob
abbrev oI (n : Nat) (f : Nat → Int32) : gt_Ob := .inl (n, f)
abbrev oZ (n : Nat) (f : Nat → Int32) : gt_Ob := .inr (.inl (n, f))
abbrev oR (kd n : Nat) (f : Nat → Option Nat) : gt_Ob := .inr (.inr (.inl (kd, n, f)))
abbrev oO (ci : Nat) (fs : List Value) : gt_Ob := .inr (.inr (.inr (ci, fs)))
abbrev gt_B (G : gt_G) : Nat := G.2.2.2.1.size
def gt_ad (G : gt_G) (k : Nat) : Nat := match k with
  | 0 => G.2.2.1
  | k + 1 => gt_B G + k
def gt_v (G : gt_G) (v : Value) : Value := match v with
  | .ref k => .ref (gt_ad G k)
  | v => v
def gt_e (G : gt_G) (o : gt_Ob) : va_E := match o with
  | .inl (n, f) => .inl (G.2.1 0, n, .inl f)
  | .inr (.inl (n, f)) => .inl (G.2.1 1, n, .inl f)
  | .inr (.inr (.inl (kd, n, f))) => .inl (G.2.1 kd, n, .inr (.inr (.inr (.inr (fun j => (f j).map (gt_ad G))))))
  | .inr (.inr (.inr (ci, fs))) => .inr (ci, fs.map (gt_v G))
def gt_tys (G : gt_G) : List (ClassId × FieldType) := [(G.2.1 0, .int), (G.2.1 1, .boolean), (G.2.1 2, .object "GurdyTide$State"), (G.2.1 3, .object "GurdyTide$Image"), (G.2.1 4, .array .int)]
def gt_tbl : List Cond := lw_tbl.filter goodWord
theorem gt_tbl_lw {w : Cond} (h : w ∈ gt_tbl) : w ∈ lw_tbl := (List.mem_filter.mp h).1
theorem gt_mem {w : Cond} (i : Nat) (h : tables_1[i]? = some w) (hg : goodWord w = true) : w ∈ gt_tbl := List.mem_filter.mpr ⟨List.mem_append_right _ (List.mem_of_getElem? h), hg⟩
theorem gt_memp {y : MethodName} {c : Nat} (i : Nat) (h : lw_privs[i]? = some (y, c)) : Cond.selects y.cls y y ∈ gt_tbl := List.mem_filter.mpr ⟨List.mem_append_left _ (List.mem_map.mpr ⟨(y, c), List.mem_of_getElem? h, rfl⟩), rfl⟩
theorem gt_tbl_good {y : MethodName} {cc : ByteArray} {mL : Nat} {rt : Option FieldType} (h : Cond.code y cc mL rt ∈ gt_tbl) : GoodIn gt_tbl (.code y cc mL rt :: gt_tbl) := fun w hw => by
  have hw : w ∈ gt_tbl := by
    rcases List.mem_cons.mp hw with e | e
    · rw [e]; exact h
    · exact e
  exact ⟨hw, good_of_word (List.mem_filter.mp hw).2⟩
def gt_nest : List (String × Nat × MethodName × String) := [("GurdyTide", 9, ⟨"GurdyTide$Reader", "<init>", "()V"⟩, "GurdyTide"), ("GurdyTide", 18, ⟨"GurdyTide$Coast", "<init>", "()V"⟩, "GurdyTide"), ("GurdyTide", 28, ⟨"GurdyTide$State", "<init>", "()V"⟩, "GurdyTide"), ("GurdyTide$Past", 17, ⟨"GurdyTide$State", "<init>", "()V"⟩, "GurdyTide"), ("GurdyTide", 51, ⟨"GurdyTide$Draws", "<init>", "()V"⟩, "GurdyTide"), ("GurdyTide", 58, ⟨"GurdyTide$Notes", "<init>", "()V"⟩, "GurdyTide"), ("GurdyTide", 65, ⟨"GurdyTide$Plan", "<init>", "()V"⟩, "GurdyTide"), ("GurdyTide", 72, ⟨"GurdyTide$Sleepers", "<init>", "()V"⟩, "GurdyTide"), ("GurdyTide", 81, ⟨"GurdyTide$Image", "<init>", "()V"⟩, "GurdyTide"), ("GurdyTide$Image", 9, ⟨"GurdyTide$State", "<init>", "()V"⟩, "GurdyTide")]
def gt_K (G : gt_G) (U : State) : Prop := va_K G.1 vwCl (gt_tys G) U ∧ va_X G.2.2.1 G.2.2.2.2.1 G.2.2.2.2.2 U G.2.2.2.1 ∧ G.2.2.1 < gt_B G ∧ (∀ q ∈ gt_nest, va_Nw (.methodLinkNest q.1 q.2.1 q.2.2.1 q.2.2.2) U) ∧ va_AO "GurdyTide$State" U ∧ va_AO "GurdyTide$Image" U ∧ (Cond.arrayOver (.array .int)).before #[] U = true
theorem gt_K_warm {G : gt_G} {u U : State} (hW : u.WarmedH U.vm) (h : gt_K G u) : gt_K G U := ⟨va_K.moved hW.alike h.1, va_X.moved hW.alike h.2.1, h.2.2.1, fun q hq => va_Nw.warmM hW (h.2.2.2.1 q hq), va_AO.moved hW.alike h.2.2.2.2.1, va_AO.moved hW.alike h.2.2.2.2.2.1, over_moved hW.alike h.2.2.2.2.2.2⟩
theorem gt_K_same {G : gt_G} {u U : State} (hv : u.vm = U.vm) (h : gt_K G u) : gt_K G U := by
  have ha : u.vm.Alike U.vm := by rw [hv]; exact Vm.Alike.refl _
  exact ⟨va_K.moved ha h.1, va_X.moved ha h.2.1, h.2.2.1, fun q hq => va_Nw.same rfl hv (h.2.2.2.1 q hq), va_AO.moved ha h.2.2.2.2.1, va_AO.moved ha h.2.2.2.2.2.1, over_moved ha h.2.2.2.2.2.2⟩
def gt_R (G : gt_G) (n : Nat) (h : gt_H) (H : Heap) : Prop := (∀ k o, h k = some o → k ≠ 0 ∧ k ≤ n ∧ va_at G.1 vwCl (gt_ad G k, gt_e G o) H) ∧ H.size = gt_B G + n ∧ ∀ q, q < gt_B G → H[q]? = G.2.2.2.1[q]?
def gt_X (G : gt_G) (own nm : String) (cc : ByteArray) (mL : Nat) (rt : Option FieldType) (p : Program) (s : State) (m : MethodId) (args : Array Value) (meth : Method) (c : Code) : Prop :=
  p.tables.exec = Jvm.exec ∧ c.code = cc ∧ c.maxLocals = mL ∧ meth.sig.returnType = rt ∧ meth.locks = false ∧ s.vm.findClass own = some m.cls ∧ meth.name = nm ∧ (∀ w ∈ gt_tbl, w.before args s = true) ∧ gt_K G s
def gt_lm (G : gt_G) (lv : List (Nat × Value)) : List (Nat × Value) := lv.map (fun q => (q.1, gt_v G q.2))
abbrev gt_Zt : Type := List Frame → Array Value → State → State → Prop
/-- the body at pc, locals lv, stack st, heap h comes to its end Z -/
def gt_A (l : Launch) (G : gt_G) (own nm : String) (cc : ByteArray) (mL : Nat) (rt : Option FieldType) (R : Room) (Z : gt_Zt) (N : Nat × Nat × Nat) (pc : Nat) (lv : List (Nat × Value)) (st : List Value) (h : gt_H) : Prop :=
  ∀ (p : Program) (e : Env) (s : State) (m : MethodId) (args : Array Value) (below : List Frame) (meth : Method) (c : Code) (H : Heap) (locs : List Loc) (ls : Array Slot),
    gt_X G own nm cc mL rt p s m args meth c → gt_R G N.1 h H → (∀ q ∈ locs, gt_B G ≤ q.base) → lv_has ls mL (gt_lm G lv) →
    W p l e R s m args below meth c H locs N.2.1 N.2.2 (Z below args s) (F0 m pc ls (st.map (gt_v G)))
def gt_rm (d mc ms : Nat) : Room := { frames := d, cells := mc, slots := ms, locals := 40 * d }
def gt_Q (G : gt_G) (n : Nat) (r : Option Value) (h : gt_H) : Array Value → State → Outcome → State → Prop := fun _ _ o t => o = .returned (r.map (gt_v G)) ∧ gt_R G n h t.heap
def gt_Z (G : gt_G) (n mc ms : Nat) (r : Option Value) (h : gt_H) : gt_Zt := fun below args s => MQ below (gt_Q G n r h) args s mc ms (fun q => gt_B G ≤ q)
def gt_P (G : gt_G) (n : Nat) (as : List Value) (h : gt_H) : Array Value → State → Prop := fun a U => a = (as.map (gt_v G)).toArray ∧ gt_R G n h U.heap ∧ gt_K G U
/-- a method's contract: with these arguments and this heap it answers r and leaves the heap h' -/
def gt_C (l : Launch) (G : gt_G) (y : MethodName) (cc : ByteArray) (mL : Nat) (rt : Option FieldType) (d mc ms n : Nat) (as : List Value) (h : gt_H) (r : Option Value) (h' : gt_H) : Prop :=
  Met l y (.code y cc mL rt :: gt_tbl) (gt_rm d mc ms) (gt_P G n as h) (gt_Q G (n + mc) r h') mc ms (fun q => gt_B G ≤ q)
theorem gt_P_blind (G : gt_G) (n : Nat) (as : List Value) (h : gt_H) : FrameBlind (gt_P G n as h) := fun a U g mk q => ⟨q.1, q.2.1, gt_K_same (u := U) (U := U.calling g mk a) rfl q.2.2⟩
/-- a contract out of the walk of its body -/
theorem gt_C_of {l : Launch} {G : gt_G} {y : MethodName} {own nm : String} {cc : ByteArray} {mL : Nat} {rt : Option FieldType} {d mc ms n : Nat} {as : List Value} {h h' : gt_H} {r : Option Value} (hown : y.cls = own) (hnm : y.name = nm) (hpl : plainName y.cls = true) (hlen : (lg_sl (as.map (gt_v G))).length ≤ mL)
    (body : gt_A l G own nm cc mL rt (gt_rm d mc ms) (gt_Z G (n + mc) mc ms r h') (n, 0, 0) 0 (lv_args 0 as) [] h) : gt_C l G y cc mL rt d mc ms n as h r h' := by
  refine Met.ofW (cc := cc) (maxL := mL) (ret := rt) hpl rfl ?_
  intro p e s m args below meth c s₁ B hml hv
  obtain ⟨rfl, hR, hK⟩ := hv
  have hts := atoms_spec (ws := .code y cc mL rt :: gt_tbl) B.pre
  have hX : gt_X G own nm cc mL rt p s m ((as.map (gt_v G)).toArray) meth c := ⟨B.exec, B.bytes, hml, B.returns, B.notSynchronized, by rw [← hown]; exact findClass_of_methodNamed B.named, by rw [← hnm]; exact (name_of_methodNamed B.named B.method).1, fun w hw => hts w (List.mem_cons_of_mem _ hw), hK⟩
  have hl := lv_entry (as.map (gt_v G)) (n := mL) hlen
  rw [lg_entry_eq]
  have hl2 : lv_args 0 (as.map (gt_v G)) = gt_lm G (lv_args 0 as) := by
    have key : ∀ (xs : List Value) (i : Nat), lv_args i (xs.map (gt_v G)) = gt_lm G (lv_args i xs) := by
      intro xs
      induction xs with
      | nil => intro i; rfl
      | cons x xs ih =>
        intro i
        have hc : (gt_v G x).category = x.category := by cases x <;> rfl
        show lv_args i (gt_v G x :: xs.map (gt_v G)) = gt_lm G (lv_args i (x :: xs))
        simp only [lv_args, gt_lm, List.map_cons, hc]
        rw [ih]
        rfl
    exact key as 0
  rw [hl2] at hl
  exact body p e s m _ below meth c s.heap [] _ hX hR (fun q hq => by cases hq) hl
