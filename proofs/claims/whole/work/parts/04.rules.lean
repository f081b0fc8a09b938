section GA
variable {l : Launch} {G : gt_G} {own nm : String} {cc : ByteArray} {mL : Nat} {rt : Option FieldType} {R : Room} {Z : gt_Zt} {N : Nat × Nat × Nat} {pc : Nat} {lv : List (Nat × Value)} {st : List Value} {h : gt_H}
theorem gt_at {ls : Array Slot} (hl : lv_has ls mL (gt_lm G lv)) (j : Nat) {i : Nat} {v : Value} (hk : lv[j]? = some (i, v)) : ls[i]? = some (.val (gt_v G v)) := lv_at hl j (by unfold gt_lm; rw [List.getElem?_map, hk]; rfl)
/-- the locals behind a store -/
def gt_set (lv : List (Nat × Value)) (i : Nat) (v : Value) : List (Nat × Value) := if lv.any (fun q => q.1 == i) then lv.map (fun q => if q.1 == i then (i, v) else q) else lv ++ [(i, v)]
def gt_ok1 (lv : List (Nat × Value)) (i : Nat) : Bool := lv.all (fun q => !(q.1 + 1 == i && q.2.category == 2))
def gt_ok2 (lv : List (Nat × Value)) (i : Nat) : Bool := lv.all (fun q => !(q.1 == i + 1) && !(q.1 + 1 == i && q.2.category == 2))
theorem gt_set_mem {lv : List (Nat × Value)} {i : Nat} {v : Value} {q : Nat × Value} (h : q ∈ gt_set lv i v) : q = (i, v) ∨ (q ∈ lv ∧ (q.1 == i) = false) := by
  unfold gt_set at h
  by_cases ha : lv.any (fun q => q.1 == i) = true
  · rw [if_pos ha] at h
    obtain ⟨x, hx, e⟩ := List.mem_map.mp h
    by_cases hi : (x.1 == i) = true
    · rw [if_pos hi] at e; exact Or.inl e.symm
    · rw [if_neg hi] at e; subst e; exact Or.inr ⟨hx, by simpa using hi⟩
  · rw [if_neg ha] at h
    rcases List.mem_append.mp h with h | h
    · refine Or.inr ⟨h, ?_⟩
      cases hq : (q.1 == i) with
      | false => rfl
      | true => exact absurd (List.any_eq_true.mpr ⟨q, h, hq⟩) ha
    · exact Or.inl (List.mem_singleton.mp h)
theorem gt_cat (v : Value) : (gt_v G v).category = v.category := by cases v <;> rfl
theorem gt_set1 {ls : Array Slot} {i : Nat} {v : Value} (ho : gt_ok1 lv i = true) (hl : lv_has ls mL ((i, gt_v G v) :: (gt_lm G lv).filter (fun q => !(q.1 == i) && !(q.1 + 1 == i && q.2.category == 2)))) : lv_has ls mL (gt_lm G (gt_set lv i v)) := by
  refine ⟨hl.1, hl.2.1, fun q hq => hl.2.2 q ?_⟩
  obtain ⟨x, hx, rfl⟩ := List.mem_map.mp hq
  rcases gt_set_mem hx with rfl | ⟨h1, h2⟩
  · exact List.mem_cons_self
  · refine List.mem_cons_of_mem _ (List.mem_filter.mpr ⟨List.mem_map.mpr ⟨x, h1, rfl⟩, ?_⟩)
    have h3 := List.all_eq_true.mp ho x h1
    simp only [gt_cat, h2]
    simpa using h3
theorem gt_set2 {ls : Array Slot} {i : Nat} {v : Value} (ho : gt_ok2 lv i = true) (hl : lv_has ls mL ((i, gt_v G v) :: (gt_lm G lv).filter (fun q => !(q.1 == i) && (!(q.1 == i + 1) && !(q.1 + 1 == i && q.2.category == 2))))) : lv_has ls mL (gt_lm G (gt_set lv i v)) := by
  refine ⟨hl.1, hl.2.1, fun q hq => hl.2.2 q ?_⟩
  obtain ⟨x, hx, rfl⟩ := List.mem_map.mp hq
  rcases gt_set_mem hx with rfl | ⟨h1, h2⟩
  · exact List.mem_cons_self
  · refine List.mem_cons_of_mem _ (List.mem_filter.mpr ⟨List.mem_map.mpr ⟨x, h1, rfl⟩, ?_⟩)
    have h3 := List.all_eq_true.mp ho x h1
    simp only [gt_cat, h2]
    simpa using h3
/-- fewer locals: the first ones -/
theorem ga_take (n : Nat) (k : gt_A l G own nm cc mL rt R Z N pc (lv.take n) st h) : gt_A l G own nm cc mL rt R Z N pc lv st h :=
  fun p e s m args below meth c H locs ls X hR hL hl => k p e s m args below meth c H locs ls X hR hL ⟨hl.1, hl.2.1, fun q hq => hl.2.2 q (by
    obtain ⟨x, hx, e⟩ := List.mem_map.mp hq
    exact List.mem_map.mpr ⟨x, List.mem_of_mem_take hx, e⟩)⟩
/-- other locals: all of them among the old -/
theorem ga_sub {lv' : List (Nat × Value)} (hs : ∀ q ∈ lv', q ∈ lv) (k : gt_A l G own nm cc mL rt R Z N pc lv' st h) : gt_A l G own nm cc mL rt R Z N pc lv st h :=
  fun p e s m args below meth c H locs ls X hR hL hl => k p e s m args below meth c H locs ls X hR hL ⟨hl.1, hl.2.1, fun q hq => hl.2.2 q (by
    obtain ⟨x, hx, e⟩ := List.mem_map.mp hq
    exact List.mem_map.mpr ⟨x, hs x hx, e⟩)⟩
/-- another name of the heap -/
theorem ga_heap {h' : gt_H} (e : h = h') (k : gt_A l G own nm cc mL rt R Z N pc lv st h') : gt_A l G own nm cc mL rt R Z N pc lv st h := e ▸ k
/-- a heap of which less is said -/
theorem ga_weak {h' : gt_H} (e : ∀ k o, h' k = some o → h k = some o) (k : gt_A l G own nm cc mL rt R Z N pc lv st h') : gt_A l G own nm cc mL rt R Z N pc lv st h :=
  fun p e' s m args below meth c H locs ls X hR hL hl => k p e' s m args below meth c H locs ls X ⟨fun i o ho => hR.1 i o (e i o ho), hR.2⟩ hL hl

theorem ga_iadd {x y : Int32} (hd : decode cc pc = .ok (.iadd, 1)) (k : gt_A l G own nm cc mL rt R Z N (pc + 1) lv (.int (x + y) :: st) h) : gt_A l G own nm cc mL rt R Z N pc lv (.int y :: .int x :: st) h :=
  fun p e s m args below meth c H locs ls X hR hL hl => lv_iadd X.1 X.2.1 hd (k p e s m args below meth c H locs ls X hR hL hl)
theorem ga_isub {x y : Int32} (hd : decode cc pc = .ok (.isub, 1)) (k : gt_A l G own nm cc mL rt R Z N (pc + 1) lv (.int (x - y) :: st) h) : gt_A l G own nm cc mL rt R Z N pc lv (.int y :: .int x :: st) h :=
  fun p e s m args below meth c H locs ls X hR hL hl => lv_isub X.1 X.2.1 hd (k p e s m args below meth c H locs ls X hR hL hl)
theorem ga_imul {x y : Int32} (hd : decode cc pc = .ok (.imul, 1)) (k : gt_A l G own nm cc mL rt R Z N (pc + 1) lv (.int (x * y) :: st) h) : gt_A l G own nm cc mL rt R Z N pc lv (.int y :: .int x :: st) h :=
  fun p e s m args below meth c H locs ls X hR hL hl => lv_imul X.1 X.2.1 hd (k p e s m args below meth c H locs ls X hR hL hl)
theorem ga_iand {x y : Int32} (hd : decode cc pc = .ok (.iand, 1)) (k : gt_A l G own nm cc mL rt R Z N (pc + 1) lv (.int (x &&& y) :: st) h) : gt_A l G own nm cc mL rt R Z N pc lv (.int y :: .int x :: st) h :=
  fun p e s m args below meth c H locs ls X hR hL hl => lv_iand X.1 X.2.1 hd (k p e s m args below meth c H locs ls X hR hL hl)
theorem ga_ior {x y : Int32} (hd : decode cc pc = .ok (.ior, 1)) (k : gt_A l G own nm cc mL rt R Z N (pc + 1) lv (.int (x ||| y) :: st) h) : gt_A l G own nm cc mL rt R Z N pc lv (.int y :: .int x :: st) h :=
  fun p e s m args below meth c H locs ls X hR hL hl => lv_ior X.1 X.2.1 hd (k p e s m args below meth c H locs ls X hR hL hl)
theorem ga_ixor {x y : Int32} (hd : decode cc pc = .ok (.ixor, 1)) (k : gt_A l G own nm cc mL rt R Z N (pc + 1) lv (.int (x ^^^ y) :: st) h) : gt_A l G own nm cc mL rt R Z N pc lv (.int y :: .int x :: st) h :=
  fun p e s m args below meth c H locs ls X hR hL hl => lv_ixor X.1 X.2.1 hd (k p e s m args below meth c H locs ls X hR hL hl)
theorem ga_ishl {x y : Int32} (hd : decode cc pc = .ok (.ishl, 1)) (k : gt_A l G own nm cc mL rt R Z N (pc + 1) lv (.int (x <<< (y &&& 31)) :: st) h) : gt_A l G own nm cc mL rt R Z N pc lv (.int y :: .int x :: st) h :=
  fun p e s m args below meth c H locs ls X hR hL hl => lv_ishl X.1 X.2.1 hd (k p e s m args below meth c H locs ls X hR hL hl)
theorem ga_ishr {x y : Int32} (hd : decode cc pc = .ok (.ishr, 1)) (k : gt_A l G own nm cc mL rt R Z N (pc + 1) lv (.int (x >>> (y &&& 31)) :: st) h) : gt_A l G own nm cc mL rt R Z N pc lv (.int y :: .int x :: st) h :=
  fun p e s m args below meth c H locs ls X hR hL hl => lv_ishr X.1 X.2.1 hd (k p e s m args below meth c H locs ls X hR hL hl)
theorem ga_idiv {x y : Int32} (hd : decode cc pc = .ok (.idiv, 1)) (hne : ¬ y = 0) (k : gt_A l G own nm cc mL rt R Z N (pc + 1) lv (.int (x / y) :: st) h) : gt_A l G own nm cc mL rt R Z N pc lv (.int y :: .int x :: st) h :=
  fun p e s m args below meth c H locs ls X hR hL hl => lv_idiv X.1 X.2.1 hd hne (k p e s m args below meth c H locs ls X hR hL hl)
theorem ga_irem {x y : Int32} (hd : decode cc pc = .ok (.irem, 1)) (hne : ¬ y = 0) (k : gt_A l G own nm cc mL rt R Z N (pc + 1) lv (.int (x - x / y * y) :: st) h) : gt_A l G own nm cc mL rt R Z N pc lv (.int y :: .int x :: st) h :=
  fun p e s m args below meth c H locs ls X hR hL hl => lv_irem X.1 X.2.1 hd hne (k p e s m args below meth c H locs ls X hR hL hl)
theorem ga_ineg {x : Int32} (hd : decode cc pc = .ok (.ineg, 1)) (k : gt_A l G own nm cc mL rt R Z N (pc + 1) lv (.int (-x) :: st) h) : gt_A l G own nm cc mL rt R Z N pc lv (.int x :: st) h :=
  fun p e s m args below meth c H locs ls X hR hL hl => lv_ineg X.1 X.2.1 hd (k p e s m args below meth c H locs ls X hR hL hl)
theorem ga_ladd {x y : Int64} (hd : decode cc pc = .ok (.ladd, 1)) (k : gt_A l G own nm cc mL rt R Z N (pc + 1) lv (.long (x + y) :: st) h) : gt_A l G own nm cc mL rt R Z N pc lv (.long y :: .long x :: st) h :=
  fun p e s m args below meth c H locs ls X hR hL hl => lv_ladd X.1 X.2.1 hd (k p e s m args below meth c H locs ls X hR hL hl)
theorem ga_lmul {x y : Int64} (hd : decode cc pc = .ok (.lmul, 1)) (k : gt_A l G own nm cc mL rt R Z N (pc + 1) lv (.long (x * y) :: st) h) : gt_A l G own nm cc mL rt R Z N pc lv (.long y :: .long x :: st) h :=
  fun p e s m args below meth c H locs ls X hR hL hl => lv_lmul X.1 X.2.1 hd (k p e s m args below meth c H locs ls X hR hL hl)
theorem ga_land {x y : Int64} (hd : decode cc pc = .ok (.land, 1)) (k : gt_A l G own nm cc mL rt R Z N (pc + 1) lv (.long (x &&& y) :: st) h) : gt_A l G own nm cc mL rt R Z N pc lv (.long y :: .long x :: st) h :=
  fun p e s m args below meth c H locs ls X hR hL hl => lv_land X.1 X.2.1 hd (k p e s m args below meth c H locs ls X hR hL hl)
theorem ga_ldiv {x y : Int64} (hd : decode cc pc = .ok (.ldiv, 1)) (hne : ¬ y = 0) (k : gt_A l G own nm cc mL rt R Z N (pc + 1) lv (.long (x / y) :: st) h) : gt_A l G own nm cc mL rt R Z N pc lv (.long y :: .long x :: st) h :=
  fun p e s m args below meth c H locs ls X hR hL hl => lv_ldiv X.1 X.2.1 hd hne (k p e s m args below meth c H locs ls X hR hL hl)
theorem ga_lrem {x y : Int64} (hd : decode cc pc = .ok (.lrem, 1)) (hne : ¬ y = 0) (k : gt_A l G own nm cc mL rt R Z N (pc + 1) lv (.long (x - x / y * y) :: st) h) : gt_A l G own nm cc mL rt R Z N pc lv (.long y :: .long x :: st) h :=
  fun p e s m args below meth c H locs ls X hR hL hl => lv_lrem X.1 X.2.1 hd hne (k p e s m args below meth c H locs ls X hR hL hl)
theorem ga_i2l {x : Int32} (hd : decode cc pc = .ok (.i2l, 1)) (k : gt_A l G own nm cc mL rt R Z N (pc + 1) lv (.long x.toInt64 :: st) h) : gt_A l G own nm cc mL rt R Z N pc lv (.int x :: st) h :=
  fun p e s m args below meth c H locs ls X hR hL hl => lv_i2l X.1 X.2.1 hd rfl (k p e s m args below meth c H locs ls X hR hL hl)
theorem ga_l2i {x : Int64} (hd : decode cc pc = .ok (.l2i, 1)) (k : gt_A l G own nm cc mL rt R Z N (pc + 1) lv (.int x.toInt32 :: st) h) : gt_A l G own nm cc mL rt R Z N pc lv (.long x :: st) h :=
  fun p e s m args below meth c H locs ls X hR hL hl => lv_l2i X.1 X.2.1 hd rfl (k p e s m args below meth c H locs ls X hR hL hl)
theorem ga_lcmp {x y : Int64} (hd : decode cc pc = .ok (.lcmp, 1)) (k : gt_A l G own nm cc mL rt R Z N (pc + 1) lv (.int (lg_cmp x y) :: st) h) : gt_A l G own nm cc mL rt R Z N pc lv (.long y :: .long x :: st) h :=
  fun p e s m args below meth c H locs ls X hR hL hl => W.lcmp X.1 X.2.1 hd (k p e s m args below meth c H locs ls X hR hL hl)
theorem ga_iconst {n : Int} (v : Int32) (hd : decode cc pc = .ok (.iconst n, 1)) (hv : Int32.ofInt n = v) (k : gt_A l G own nm cc mL rt R Z N (pc + 1) lv (.int v :: st) h) : gt_A l G own nm cc mL rt R Z N pc lv st h :=
  fun p e s m args below meth c H locs ls X hR hL hl => lv_iconst X.1 X.2.1 hd hv (k p e s m args below meth c H locs ls X hR hL hl)
theorem ga_bipush {n : Int} (v : Int32) (hd : decode cc pc = .ok (.bipush n, 2)) (hv : (Int8.ofInt n).toInt32 = v) (k : gt_A l G own nm cc mL rt R Z N (pc + 2) lv (.int v :: st) h) : gt_A l G own nm cc mL rt R Z N pc lv st h :=
  fun p e s m args below meth c H locs ls X hR hL hl => lv_bipush X.1 X.2.1 hd hv (k p e s m args below meth c H locs ls X hR hL hl)
theorem ga_sipush {n : Int} (v : Int32) (hd : decode cc pc = .ok (.sipush n, 3)) (hv : (Int16.ofInt n).toInt32 = v) (k : gt_A l G own nm cc mL rt R Z N (pc + 3) lv (.int v :: st) h) : gt_A l G own nm cc mL rt R Z N pc lv st h :=
  fun p e s m args below meth c H locs ls X hR hL hl => lv_sipush X.1 X.2.1 hd hv (k p e s m args below meth c H locs ls X hR hL hl)
theorem ga_lconst {n : Fin 2} (v : Int64) (hd : decode cc pc = .ok (.lconst n, 1)) (hv : Int64.ofNat (n : Nat) = v) (k : gt_A l G own nm cc mL rt R Z N (pc + 1) lv (.long v :: st) h) : gt_A l G own nm cc mL rt R Z N pc lv st h :=
  fun p e s m args below meth c H locs ls X hR hL hl => lv_lconst X.1 X.2.1 hd hv (k p e s m args below meth c H locs ls X hR hL hl)
theorem ga_ldc {idx : Nat} {v : Int32} (hc : Cond.constant own idx v ∈ gt_tbl) (hd : decode cc pc = .ok (.ldc idx, 2)) (k : gt_A l G own nm cc mL rt R Z N (pc + 2) lv (.int v :: st) h) : gt_A l G own nm cc mL rt R Z N pc lv st h :=
  fun p e s m args below meth c H locs ls X hR hL hl => lv_ldc X.1 X.2.1 X.2.2.2.2.2.1 (X.2.2.2.2.2.2.2.1 _ hc) hd (k p e s m args below meth c H locs ls X hR hL hl)
theorem ga_ldc_w {idx : Nat} {v : Int32} (hc : Cond.constant own idx v ∈ gt_tbl) (hd : decode cc pc = .ok (.ldc_w idx, 3)) (k : gt_A l G own nm cc mL rt R Z N (pc + 3) lv (.int v :: st) h) : gt_A l G own nm cc mL rt R Z N pc lv st h :=
  fun p e s m args below meth c H locs ls X hR hL hl => lv_ldcw X.1 X.2.1 X.2.2.2.2.2.1 (X.2.2.2.2.2.2.2.1 _ hc) hd (k p e s m args below meth c H locs ls X hR hL hl)
theorem ga_ldc2_w {idx : Nat} {v : Int64} (hc : Cond.constantLong own idx v ∈ gt_tbl) (hd : decode cc pc = .ok (.ldc2_w idx, 3)) (k : gt_A l G own nm cc mL rt R Z N (pc + 3) lv (.long v :: st) h) : gt_A l G own nm cc mL rt R Z N pc lv st h :=
  fun p e s m args below meth c H locs ls X hR hL hl => lv_ldc2 X.1 X.2.1 X.2.2.2.2.2.1 (X.2.2.2.2.2.2.2.1 _ hc) hd (k p e s m args below meth c H locs ls X hR hL hl)
theorem ga_dup {v : Value} (hd : decode cc pc = .ok (.dup, 1)) (hv : v.category = 1) (k : gt_A l G own nm cc mL rt R Z N (pc + 1) lv (v :: v :: st) h) : gt_A l G own nm cc mL rt R Z N pc lv (v :: st) h :=
  fun p e s m args below meth c H locs ls X hR hL hl => lv_dup X.1 X.2.1 hd (by rw [gt_cat]; exact hv) (k p e s m args below meth c H locs ls X hR hL hl)
theorem ga_pop {v : Value} (hd : decode cc pc = .ok (.pop, 1)) (hv : v.category = 1) (k : gt_A l G own nm cc mL rt R Z N (pc + 1) lv st h) : gt_A l G own nm cc mL rt R Z N pc lv (v :: st) h :=
  fun p e s m args below meth c H locs ls X hR hL hl => lv_pop X.1 X.2.1 hd (by rw [gt_cat]; exact hv) (k p e s m args below meth c H locs ls X hR hL hl)
theorem ga_dup2 {v w : Value} (hd : decode cc pc = .ok (.dup2, 1)) (hv : v.category = 1) (hw : w.category = 1) (k : gt_A l G own nm cc mL rt R Z N (pc + 1) lv (v :: w :: v :: w :: st) h) : gt_A l G own nm cc mL rt R Z N pc lv (v :: w :: st) h :=
  fun p e s m args below meth c H locs ls X hR hL hl => lv_dup2_11 X.1 X.2.1 hd (by rw [gt_cat]; exact hv) (by rw [gt_cat]; exact hw) (k p e s m args below meth c H locs ls X hR hL hl)
theorem ga_iload (j : Nat) {i : Nat} {x : Int32} (hd : decode cc pc = .ok (.iload i, 2)) (hk : lv[j]? = some (i, .int x)) (k : gt_A l G own nm cc mL rt R Z N (pc + 2) lv (.int x :: st) h) : gt_A l G own nm cc mL rt R Z N pc lv st h :=
  fun p e s m args below meth c H locs ls X hR hL hl => lv_iload X.1 X.2.1 hd (gt_at hl j hk) (k p e s m args below meth c H locs ls X hR hL hl)
theorem ga_iload_n (j : Nat) {f : Fin 4} {x : Int32} (hd : decode cc pc = .ok (.iload_n f, 1)) (hk : lv[j]? = some ((f : Nat), .int x)) (k : gt_A l G own nm cc mL rt R Z N (pc + 1) lv (.int x :: st) h) : gt_A l G own nm cc mL rt R Z N pc lv st h :=
  fun p e s m args below meth c H locs ls X hR hL hl => lv_iload_n X.1 X.2.1 hd rfl (gt_at hl j hk) (k p e s m args below meth c H locs ls X hR hL hl)
theorem ga_istore {i : Nat} {x : Int32} (hd : decode cc pc = .ok (.istore i, 2)) (hn : i < mL) (ho : gt_ok1 lv i = true) (k : gt_A l G own nm cc mL rt R Z N (pc + 2) (gt_set lv i (.int x)) st h) : gt_A l G own nm cc mL rt R Z N pc lv (.int x :: st) h :=
  fun p e s m args below meth c H locs ls X hR hL hl => lv_istore X.1 X.2.1 hd hl hn rfl (fun ls' hl' => k p e s m args below meth c H locs ls' X hR hL (gt_set1 (v := .int x) ho hl'))
theorem ga_istore_n {f : Fin 4} {x : Int32} (hd : decode cc pc = .ok (.istore_n f, 1)) (hn : (f : Nat) < mL) (ho : gt_ok1 lv f = true) (k : gt_A l G own nm cc mL rt R Z N (pc + 1) (gt_set lv f (.int x)) st h) : gt_A l G own nm cc mL rt R Z N pc lv (.int x :: st) h :=
  fun p e s m args below meth c H locs ls X hR hL hl => lv_istore_n X.1 X.2.1 hd rfl hl hn rfl (fun ls' hl' => k p e s m args below meth c H locs ls' X hR hL (gt_set1 (v := .int x) ho hl'))
theorem ga_lload (j : Nat) {i : Nat} {x : Int64} (hd : decode cc pc = .ok (.lload i, 2)) (hk : lv[j]? = some (i, .long x)) (k : gt_A l G own nm cc mL rt R Z N (pc + 2) lv (.long x :: st) h) : gt_A l G own nm cc mL rt R Z N pc lv st h :=
  fun p e s m args below meth c H locs ls X hR hL hl => lv_lload X.1 X.2.1 hd (gt_at hl j hk) (k p e s m args below meth c H locs ls X hR hL hl)
theorem ga_lload_n (j : Nat) {f : Fin 4} {x : Int64} (hd : decode cc pc = .ok (.lload_n f, 1)) (hk : lv[j]? = some ((f : Nat), .long x)) (k : gt_A l G own nm cc mL rt R Z N (pc + 1) lv (.long x :: st) h) : gt_A l G own nm cc mL rt R Z N pc lv st h :=
  fun p e s m args below meth c H locs ls X hR hL hl => lv_lload_n X.1 X.2.1 hd rfl (gt_at hl j hk) (k p e s m args below meth c H locs ls X hR hL hl)
theorem ga_lstore {i : Nat} {x : Int64} (hd : decode cc pc = .ok (.lstore i, 2)) (hn : i + 1 < mL) (ho : gt_ok2 lv i = true) (k : gt_A l G own nm cc mL rt R Z N (pc + 2) (gt_set lv i (.long x)) st h) : gt_A l G own nm cc mL rt R Z N pc lv (.long x :: st) h :=
  fun p e s m args below meth c H locs ls X hR hL hl => lv_lstore X.1 X.2.1 hd hl hn rfl (fun ls' hl' => k p e s m args below meth c H locs ls' X hR hL (gt_set2 (v := .long x) ho hl'))
theorem ga_lstore_n {f : Fin 4} {x : Int64} (hd : decode cc pc = .ok (.lstore_n f, 1)) (hn : (f : Nat) + 1 < mL) (ho : gt_ok2 lv f = true) (k : gt_A l G own nm cc mL rt R Z N (pc + 1) (gt_set lv f (.long x)) st h) : gt_A l G own nm cc mL rt R Z N pc lv (.long x :: st) h :=
  fun p e s m args below meth c H locs ls X hR hL hl => lv_lstore_n X.1 X.2.1 hd rfl hl hn rfl (fun ls' hl' => k p e s m args below meth c H locs ls' X hR hL (gt_set2 (v := .long x) ho hl'))
theorem ga_aload (j : Nat) {i : Nat} {x : Nat} (hd : decode cc pc = .ok (.aload i, 2)) (hk : lv[j]? = some (i, .ref x)) (k : gt_A l G own nm cc mL rt R Z N (pc + 2) lv (.ref x :: st) h) : gt_A l G own nm cc mL rt R Z N pc lv st h :=
  fun p e s m args below meth c H locs ls X hR hL hl => lv_aload X.1 X.2.1 hd (gt_at hl j hk) (k p e s m args below meth c H locs ls X hR hL hl)
theorem ga_aload_n (j : Nat) {f : Fin 4} {x : Nat} (hd : decode cc pc = .ok (.aload_n f, 1)) (hk : lv[j]? = some ((f : Nat), .ref x)) (k : gt_A l G own nm cc mL rt R Z N (pc + 1) lv (.ref x :: st) h) : gt_A l G own nm cc mL rt R Z N pc lv st h :=
  fun p e s m args below meth c H locs ls X hR hL hl => lv_aload_n X.1 X.2.1 hd rfl (gt_at hl j hk) (k p e s m args below meth c H locs ls X hR hL hl)
theorem ga_astore {i : Nat} {x : Nat} (hd : decode cc pc = .ok (.astore i, 2)) (hn : i < mL) (ho : gt_ok1 lv i = true) (k : gt_A l G own nm cc mL rt R Z N (pc + 2) (gt_set lv i (.ref x)) st h) : gt_A l G own nm cc mL rt R Z N pc lv (.ref x :: st) h :=
  fun p e s m args below meth c H locs ls X hR hL hl => lv_astore X.1 X.2.1 hd hl hn rfl (fun ls' hl' => k p e s m args below meth c H locs ls' X hR hL (gt_set1 (v := .ref x) ho hl'))
theorem ga_astore_n {f : Fin 4} {x : Nat} (hd : decode cc pc = .ok (.astore_n f, 1)) (hn : (f : Nat) < mL) (ho : gt_ok1 lv f = true) (k : gt_A l G own nm cc mL rt R Z N (pc + 1) (gt_set lv f (.ref x)) st h) : gt_A l G own nm cc mL rt R Z N pc lv (.ref x :: st) h :=
  fun p e s m args below meth c H locs ls X hR hL hl => lv_astore_n X.1 X.2.1 hd rfl hl hn rfl (fun ls' hl' => k p e s m args below meth c H locs ls' X hR hL (gt_set1 (v := .ref x) ho hl'))
theorem ga_iinc (j : Nat) {i : Nat} {n : Int} {x : Int32} (v : Int32) (hd : decode cc pc = .ok (.iinc i n, 3)) (hk : lv[j]? = some (i, .int x)) (hv : Int32.ofInt n = v) (hn : i < mL) (ho : gt_ok1 lv i = true) (k : gt_A l G own nm cc mL rt R Z N (pc + 3) (gt_set lv i (.int (x + v))) st h) : gt_A l G own nm cc mL rt R Z N pc lv st h :=
  fun p e s m args below meth c H locs ls X hR hL hl => lv_iinc (v := x + v) X.1 X.2.1 hd hl (k := j) (by unfold gt_lm; rw [List.getElem?_map, hk]; rfl) (by rw [hv]) hn rfl (fun ls' hl' => k p e s m args below meth c H locs ls' X hR hL (gt_set1 (v := .int (x + v)) ho hl'))
theorem ga_if_eq {x : Int32} {off : Int} (tgt : Nat) (hd : decode cc pc = .ok (.ifCond .eq off, 3)) (ht : (pc : Int) + off = (tgt : Int)) (kt : x = 0 → gt_A l G own nm cc mL rt R Z N tgt lv st h) (kf : ¬ x = 0 → gt_A l G own nm cc mL rt R Z N (pc + 3) lv st h) : gt_A l G own nm cc mL rt R Z N pc lv (.int x :: st) h :=
  fun p e s m args below meth c H locs ls X hR hL hl => lv_if_eq X.1 X.2.1 hd ht (fun q => kt q p e s m args below meth c H locs ls X hR hL hl) (fun q => kf q p e s m args below meth c H locs ls X hR hL hl)
theorem ga_if_ne {x : Int32} {off : Int} (tgt : Nat) (hd : decode cc pc = .ok (.ifCond .ne off, 3)) (ht : (pc : Int) + off = (tgt : Int)) (kt : ¬ x = 0 → gt_A l G own nm cc mL rt R Z N tgt lv st h) (kf : x = 0 → gt_A l G own nm cc mL rt R Z N (pc + 3) lv st h) : gt_A l G own nm cc mL rt R Z N pc lv (.int x :: st) h :=
  fun p e s m args below meth c H locs ls X hR hL hl => lv_if_ne X.1 X.2.1 hd ht (fun q => kt q p e s m args below meth c H locs ls X hR hL hl) (fun q => kf q p e s m args below meth c H locs ls X hR hL hl)
theorem ga_if_lt {x : Int32} {off : Int} (tgt : Nat) (hd : decode cc pc = .ok (.ifCond .lt off, 3)) (ht : (pc : Int) + off = (tgt : Int)) (kt : x < 0 → gt_A l G own nm cc mL rt R Z N tgt lv st h) (kf : ¬ x < 0 → gt_A l G own nm cc mL rt R Z N (pc + 3) lv st h) : gt_A l G own nm cc mL rt R Z N pc lv (.int x :: st) h :=
  fun p e s m args below meth c H locs ls X hR hL hl => lv_if_lt X.1 X.2.1 hd ht (fun q => kt q p e s m args below meth c H locs ls X hR hL hl) (fun q => kf q p e s m args below meth c H locs ls X hR hL hl)
theorem ga_if_ge {x : Int32} {off : Int} (tgt : Nat) (hd : decode cc pc = .ok (.ifCond .ge off, 3)) (ht : (pc : Int) + off = (tgt : Int)) (kt : 0 ≤ x → gt_A l G own nm cc mL rt R Z N tgt lv st h) (kf : ¬ 0 ≤ x → gt_A l G own nm cc mL rt R Z N (pc + 3) lv st h) : gt_A l G own nm cc mL rt R Z N pc lv (.int x :: st) h :=
  fun p e s m args below meth c H locs ls X hR hL hl => lv_if_ge X.1 X.2.1 hd ht (fun q => kt q p e s m args below meth c H locs ls X hR hL hl) (fun q => kf q p e s m args below meth c H locs ls X hR hL hl)
theorem ga_if_gt {x : Int32} {off : Int} (tgt : Nat) (hd : decode cc pc = .ok (.ifCond .gt off, 3)) (ht : (pc : Int) + off = (tgt : Int)) (kt : 0 < x → gt_A l G own nm cc mL rt R Z N tgt lv st h) (kf : ¬ 0 < x → gt_A l G own nm cc mL rt R Z N (pc + 3) lv st h) : gt_A l G own nm cc mL rt R Z N pc lv (.int x :: st) h :=
  fun p e s m args below meth c H locs ls X hR hL hl => lv_if_gt X.1 X.2.1 hd ht (fun q => kt q p e s m args below meth c H locs ls X hR hL hl) (fun q => kf q p e s m args below meth c H locs ls X hR hL hl)
theorem ga_if_le {x : Int32} {off : Int} (tgt : Nat) (hd : decode cc pc = .ok (.ifCond .le off, 3)) (ht : (pc : Int) + off = (tgt : Int)) (kt : x ≤ 0 → gt_A l G own nm cc mL rt R Z N tgt lv st h) (kf : ¬ x ≤ 0 → gt_A l G own nm cc mL rt R Z N (pc + 3) lv st h) : gt_A l G own nm cc mL rt R Z N pc lv (.int x :: st) h :=
  fun p e s m args below meth c H locs ls X hR hL hl => lv_if_le X.1 X.2.1 hd ht (fun q => kt q p e s m args below meth c H locs ls X hR hL hl) (fun q => kf q p e s m args below meth c H locs ls X hR hL hl)
theorem ga_icmp_eq {x y : Int32} {off : Int} (tgt : Nat) (hd : decode cc pc = .ok (.if_icmp .eq off, 3)) (ht : (pc : Int) + off = (tgt : Int)) (kt : x = y → gt_A l G own nm cc mL rt R Z N tgt lv st h) (kf : ¬ x = y → gt_A l G own nm cc mL rt R Z N (pc + 3) lv st h) : gt_A l G own nm cc mL rt R Z N pc lv (.int y :: .int x :: st) h :=
  fun p e s m args below meth c H locs ls X hR hL hl => lv_icmp_eq X.1 X.2.1 hd ht (fun q => kt q p e s m args below meth c H locs ls X hR hL hl) (fun q => kf q p e s m args below meth c H locs ls X hR hL hl)
theorem ga_icmp_ne {x y : Int32} {off : Int} (tgt : Nat) (hd : decode cc pc = .ok (.if_icmp .ne off, 3)) (ht : (pc : Int) + off = (tgt : Int)) (kt : ¬ x = y → gt_A l G own nm cc mL rt R Z N tgt lv st h) (kf : x = y → gt_A l G own nm cc mL rt R Z N (pc + 3) lv st h) : gt_A l G own nm cc mL rt R Z N pc lv (.int y :: .int x :: st) h :=
  fun p e s m args below meth c H locs ls X hR hL hl => lv_icmp_ne X.1 X.2.1 hd ht (fun q => kt q p e s m args below meth c H locs ls X hR hL hl) (fun q => kf q p e s m args below meth c H locs ls X hR hL hl)
theorem ga_icmp_lt {x y : Int32} {off : Int} (tgt : Nat) (hd : decode cc pc = .ok (.if_icmp .lt off, 3)) (ht : (pc : Int) + off = (tgt : Int)) (kt : x < y → gt_A l G own nm cc mL rt R Z N tgt lv st h) (kf : ¬ x < y → gt_A l G own nm cc mL rt R Z N (pc + 3) lv st h) : gt_A l G own nm cc mL rt R Z N pc lv (.int y :: .int x :: st) h :=
  fun p e s m args below meth c H locs ls X hR hL hl => lv_icmp_lt X.1 X.2.1 hd ht (fun q => kt q p e s m args below meth c H locs ls X hR hL hl) (fun q => kf q p e s m args below meth c H locs ls X hR hL hl)
theorem ga_icmp_ge {x y : Int32} {off : Int} (tgt : Nat) (hd : decode cc pc = .ok (.if_icmp .ge off, 3)) (ht : (pc : Int) + off = (tgt : Int)) (kt : y ≤ x → gt_A l G own nm cc mL rt R Z N tgt lv st h) (kf : ¬ y ≤ x → gt_A l G own nm cc mL rt R Z N (pc + 3) lv st h) : gt_A l G own nm cc mL rt R Z N pc lv (.int y :: .int x :: st) h :=
  fun p e s m args below meth c H locs ls X hR hL hl => lv_icmp_ge X.1 X.2.1 hd ht (fun q => kt q p e s m args below meth c H locs ls X hR hL hl) (fun q => kf q p e s m args below meth c H locs ls X hR hL hl)
theorem ga_icmp_gt {x y : Int32} {off : Int} (tgt : Nat) (hd : decode cc pc = .ok (.if_icmp .gt off, 3)) (ht : (pc : Int) + off = (tgt : Int)) (kt : y < x → gt_A l G own nm cc mL rt R Z N tgt lv st h) (kf : ¬ y < x → gt_A l G own nm cc mL rt R Z N (pc + 3) lv st h) : gt_A l G own nm cc mL rt R Z N pc lv (.int y :: .int x :: st) h :=
  fun p e s m args below meth c H locs ls X hR hL hl => lv_icmp_gt X.1 X.2.1 hd ht (fun q => kt q p e s m args below meth c H locs ls X hR hL hl) (fun q => kf q p e s m args below meth c H locs ls X hR hL hl)
theorem ga_icmp_le {x y : Int32} {off : Int} (tgt : Nat) (hd : decode cc pc = .ok (.if_icmp .le off, 3)) (ht : (pc : Int) + off = (tgt : Int)) (kt : x ≤ y → gt_A l G own nm cc mL rt R Z N tgt lv st h) (kf : ¬ x ≤ y → gt_A l G own nm cc mL rt R Z N (pc + 3) lv st h) : gt_A l G own nm cc mL rt R Z N pc lv (.int y :: .int x :: st) h :=
  fun p e s m args below meth c H locs ls X hR hL hl => lv_icmp_le X.1 X.2.1 hd ht (fun q => kt q p e s m args below meth c H locs ls X hR hL hl) (fun q => kf q p e s m args below meth c H locs ls X hR hL hl)
theorem ga_goto {off : Int} (tgt : Nat) (hd : decode cc pc = .ok (.goto off, 3)) (ht : (pc : Int) + off = (tgt : Int)) (k : gt_A l G own nm cc mL rt R Z N tgt lv st h) : gt_A l G own nm cc mL rt R Z N pc lv st h :=
  fun p e s m args below meth c H locs ls X hR hL hl => lv_goto X.1 X.2.1 hd ht (k p e s m args below meth c H locs ls X hR hL hl)
theorem ga_tableIn {dflt lo hi : Int} {offs : Array Int} {len : Nat} {x : Int32} {off : Int} (tgt : Nat) (hd : decode cc pc = .ok (.tableswitch dflt lo hi offs, len)) (h1 : ¬ x.toInt < lo) (h2 : ¬ hi < x.toInt) (ho : offs[(x.toInt - lo).toNat]? = some off) (ht : (pc : Int) + off = (tgt : Int)) (k : gt_A l G own nm cc mL rt R Z N tgt lv st h) : gt_A l G own nm cc mL rt R Z N pc lv (.int x :: st) h :=
  fun p e s m args below meth c H locs ls X hR hL hl => lv_tableIn X.1 X.2.1 hd h1 h2 ho ht (k p e s m args below meth c H locs ls X hR hL hl)
theorem ga_tableOut {dflt lo hi : Int} {offs : Array Int} {len : Nat} {x : Int32} (tgt : Nat) (hd : decode cc pc = .ok (.tableswitch dflt lo hi offs, len)) (hq : x.toInt < lo ∨ hi < x.toInt) (ht : (pc : Int) + dflt = (tgt : Int)) (k : gt_A l G own nm cc mL rt R Z N tgt lv st h) : gt_A l G own nm cc mL rt R Z N pc lv (.int x :: st) h :=
  fun p e s m args below meth c H locs ls X hR hL hl => lv_tableOut X.1 X.2.1 hd hq ht (k p e s m args below meth c H locs ls X hR hL hl)
theorem ga_lookup {dflt : Int} {ps : Array (Int × Int)} {len : Nat} {x : Int32} {off : Int} (tgt : Nat) (hd : decode cc pc = .ok (.lookupswitch dflt ps, len)) (hp : (ps.toList.zip (ps.toList.drop 1)).all (fun (a, next) => a.1 < next.1) = true) (ho : Op.lookupswitch.offset ps.toList dflt x.toInt = off) (ht : (pc : Int) + off = (tgt : Int)) (k : gt_A l G own nm cc mL rt R Z N tgt lv st h) : gt_A l G own nm cc mL rt R Z N pc lv (.int x :: st) h :=
  fun p e s m args below meth c H locs ls X hR hL hl => lv_lookup X.1 X.2.1 hd hp ho ht (k p e s m args below meth c H locs ls X hR hL hl)
theorem ga_iret {n mc ms : Nat} {r : Option Value} {h' : gt_H} {v : Int32} (hd : decode cc pc = .ok (.ireturn, 1)) (hr : r = some (.int v)) (hh : h' = h) : gt_A l G own nm cc mL (some .int) R (gt_Z G n mc ms r h') (n, mc, ms) pc lv [.int v] h :=
  fun p e s m args below meth c H locs ls X hR hL hl => by
    subst hr; subst hh
    exact W.iret (Qc := gt_Q G n (some (.int v)) h') X.1 X.2.1 X.2.2.2.1 (fun t ht _ => ⟨rfl, by rw [ht]; exact hR⟩) hL hd X.2.2.2.2.1
theorem ga_zret {n mc ms : Nat} {r : Option Value} {h' : gt_H} {v : Int32} (hd : decode cc pc = .ok (.ireturn, 1)) (hn : narrow .boolean (.int v) = .int v) (hr : r = some (.int v)) (hh : h' = h) : gt_A l G own nm cc mL (some .boolean) R (gt_Z G n mc ms r h') (n, mc, ms) pc lv [.int v] h :=
  fun p e s m args below meth c H locs ls X hR hL hl => by
    subst hr; subst hh
    exact W.zret (Qc := gt_Q G n (some (.int v)) h') X.1 X.2.1 X.2.2.2.1 hn (fun t ht _ => ⟨rfl, by rw [ht]; exact hR⟩) hL hd X.2.2.2.2.1
theorem ga_vret {n mc ms : Nat} {r : Option Value} {h' : gt_H} (hd : decode cc pc = .ok (.return_, 1)) (hr : r = none) (hh : ∀ k o, h' k = some o → h k = some o) : gt_A l G own nm cc mL none R (gt_Z G n mc ms r h') (n, mc, ms) pc lv [] h :=
  fun p e s m args below meth c H locs ls X hR hL hl => by
    subst hr
    exact W.vret (Qc := gt_Q G n none h') X.1 X.2.1 X.2.2.2.1 (fun t ht _ => ⟨rfl, by rw [ht]; exact ⟨fun i o ho => hR.1 i o (hh i o ho), hR.2⟩⟩) hL hd X.2.2.2.2.1
end GA
