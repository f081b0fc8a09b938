section GH
variable {l : Launch} {G : gt_G} {own nm : String} {cc : ByteArray} {mL : Nat} {rt : Option FieldType} {R : Room} {Z : gt_Zt} {N : Nat × Nat × Nat} {pc : Nat} {lv : List (Nat × Value)} {st : List Value} {h : gt_H}
/-- the heap with another object at a -/
def gt_up (h : gt_H) (a : Nat) (o : gt_Ob) : gt_H := fun k => if k = a then some o else h k
theorem gt_ad_lt {n k : Nat} {H : Heap} (hR : gt_R G n h H) {o : gt_Ob} (ho : h k = some o) : gt_B G ≤ gt_ad G k := by
  obtain ⟨h0, -, -⟩ := hR.1 k o ho
  cases k with
  | zero => exact absurd rfl h0
  | succ k => show gt_B G ≤ gt_B G + k; omega
theorem gt_ad_inj {a b : Nat} (ha : a ≠ 0) (hb : b ≠ 0) (e : gt_ad G a = gt_ad G b) : a = b := by
  cases a with
  | zero => exact absurd rfl ha
  | succ a =>
    cases b with
    | zero => exact absurd rfl hb
    | succ b =>
      have e : gt_B G + a = gt_B G + b := e
      omega
theorem gt_R_up {n a : Nat} {H H1 : Heap} {o o' : gt_Ob} (hR : gt_R G n h H) (ho : h a = some o) (hat : va_at G.1 vwCl (gt_ad G a, gt_e G o') H1) (hz : H1.size = H.size) (hq : ∀ q : Nat, q ≠ gt_ad G a → H1[q]? = H[q]?) : gt_R G n (gt_up h a o') H1 := by
  have h0 := hR.1 a o ho
  refine ⟨fun k ob hk => ?_, by rw [hz]; exact hR.2.1, fun q hl => ?_⟩
  · unfold gt_up at hk
    by_cases hka : k = a
    · rw [if_pos hka] at hk
      cases hk
      subst hka
      exact ⟨h0.1, h0.2.1, hat⟩
    · rw [if_neg hka] at hk
      obtain ⟨q1, q2, q3⟩ := hR.1 k ob hk
      exact ⟨q1, q2, q3.kept (hq _ (fun e => hka (gt_ad_inj q1 h0.1 e)))⟩
  · have := gt_ad_lt hR ho
    rw [hq q (by omega)]
    exact hR.2.2 q hl
theorem gt_R_P {n a : Nat} {H : Heap} {o : gt_Ob} (hR : gt_R G n h H) (ho : h a = some o) : va_P G.1 vwCl [(gt_ad G a, gt_e G o)] H := fun k q hq => by
  cases k with
  | zero => cases hq; exact (hR.1 a o ho).2.2
  | succ k => cases hq
/-- a field's row: its class, its place, its link among the tables' words, its type, final or not -/
def gt_F (own : String) (idx ci k : Nat) (ty : FieldType) (fin : Bool) : Prop := ∃ (C : String) (T : u_T) (M : Nat) (ty0 : Nat → FieldType), vwCl[ci]? = some (C, T, M) ∧ k < M ∧ Cond.fieldLink own idx (T k).1 (T k).2.1 (T k).2.2.1 ∈ gt_tbl ∧ parseFieldDescriptor (T k).2.2.1 = some ty ∧ (T k).2.2.2 = fin ∧ (∀ w ∈ u_ws C T M, w ∈ gt_tbl) ∧ (∀ k, k < M → parseFieldDescriptor (T k).2.2.1 = some (ty0 k)) ∧ (∀ a, a < M → ∀ b, b < M → a ≠ b → (T a).2.1 ≠ (T b).2.1) ∧ (fin = true → (T k).1 = own)
def gt_Fr (own : String) (idx ci k : Nat) : Prop := ∃ (C : String) (T : u_T) (M : Nat), vwCl[ci]? = some (C, T, M) ∧ k < M ∧ Cond.fieldLink own idx (T k).1 (T k).2.1 (T k).2.2.1 ∈ gt_tbl ∧ (∀ w ∈ u_ws C T M, w ∈ gt_tbl)
theorem ga_get {idx ci k a : Nat} {fs : List Value} {v : Value} (hF : gt_Fr own idx ci k) (ho : h a = some (oO ci fs)) (hv : fs[k]? = some v) (hd : decode cc pc = .ok (.getfield idx, 3)) (kk : gt_A l G own nm cc mL rt R Z N (pc + 3) lv (v :: st) h) : gt_A l G own nm cc mL rt R Z N pc lv (.ref a :: st) h :=
  fun p e s m args below meth c H locs ls X hR hL hl => by
    obtain ⟨C, T, M, hc, hk, hlk, hin⟩ := hF
    exact va_get X.1 X.2.1 X.2.2.2.2.2.2.2.1 hin X.2.2.2.2.2.1 X.2.2.2.2.2.2.2.2.1 (gt_R_P hR ho) 0 (fs := fs.map (gt_v G)) rfl hc k hk (X.2.2.2.2.2.2.2.1 _ hlk) (fun _ q => q) (v := gt_v G v) (by rw [List.getElem?_map, hv]; rfl) hd (kk p e s m args below meth c H locs ls X hR hL hl)
theorem ga_put {idx ci k a : Nat} {ty : FieldType} {fs : List Value} {v : Value} (hF : gt_F own idx ci k ty false) (ho : h a = some (oO ci fs)) (hn : narrow ty (gt_v G v) = gt_v G v) (hf : fits ty (gt_v G v) = true) (hl0 : k < fs.length) (hd : decode cc pc = .ok (.putfield idx, 3)) (kk : gt_A l G own nm cc mL rt R Z N (pc + 3) lv st (gt_up h a (oO ci (fs.set k v)))) : gt_A l G own nm cc mL rt R Z N pc lv (v :: .ref a :: st) h :=
  fun p e s m args below meth c H locs ls X hR hL hl => by
    obtain ⟨C, T, M, ty0, hc, hk, hlk, hdd, hfin, hin, hty, hnm, -⟩ := hF
    have hK := X.2.2.2.2.2.2.2.2.1
    have hts := X.2.2.2.2.2.2.2.1
    have hap := va_apart (own := own) hts hin ty0 hty hnm hK hc
    obtain ⟨r, h1, cell, q1, q2, q3, q4⟩ := (hR.1 a _ ho).2.2
    have hr : r = (C, T, M) := Option.some.inj (h1.symm.trans hc)
    subst hr
    obtain ⟨hS, hfc, kC, hkC, hkind⟩ := hK.1 ci _ hc
    obtain ⟨cf, kf, fi, f, hi, hsl⟩ := hS k hk
    have hlay := hts _ (hin _ (u_in_lay hk))
    unfold u_lay at hlay
    rw [if_neg (by rw [hfin]; decide)] at hlay
    have hst := (u_facts hfc hkC (u_lays hts hin hk) hi).1
    have h6 := u_store hfc hkC hkind hlay hi hdd hn hf
    refine W.putK X.1 X.2.1 (f := f) ⟨X.2.2.2.2.2.1, hts _ hlk, ⟨_, _, _, hi⟩, hst⟩ (by rw [q2]; exact h6) q1 q3 (by rw [hsl]; exact k2_hasslot (q4 k hk)) rfl rfl hd fun H' e1 e2 e3 => ?_
    rw [hsl] at e1 ⊢
    have hset : (fs.map (gt_v G)).set k (gt_v G v) = (fs.set k v).map (gt_v G) := by rw [List.map_set]
    refine kk p e s m args below meth c H' _ ls X (gt_R_up hR ho ⟨_, hc, ?_⟩ e2 e3) (fun q hq => ?_) hl
    · show t_OB _ _ _ _ _ (vp_V ((fs.set k v).map (gt_v G)))
      rw [← hset]
      exact t_OB.to (V := updV (vp_V (fs.map (gt_v G))) k (gt_v G v)) ⟨_, e1, q2, q3, t_set q4 hap hk (gt_v G v)⟩ (fun j _ => vp_updV_set (by rw [List.length_map]; exact hl0) (gt_v G v) j)
    · rcases List.mem_append.mp hq with hq | hq
      · exact hL q hq
      · rw [List.mem_singleton.mp hq]; exact gt_ad_lt hR ho
theorem ga_putF {idx ci k a : Nat} {ty : FieldType} {fs : List Value} {v : Value} (hF : gt_F own idx ci k ty true) (ho : h a = some (oO ci fs)) (hn : narrow ty (gt_v G v) = gt_v G v) (hf : fits ty (gt_v G v) = true) (hl0 : k < fs.length) (hi0 : nm = "<init>") (hd : decode cc pc = .ok (.putfield idx, 3)) (kk : gt_A l G own nm cc mL rt R Z N (pc + 3) lv st (gt_up h a (oO ci (fs.set k v)))) : gt_A l G own nm cc mL rt R Z N pc lv (v :: .ref a :: st) h :=
  fun p e s m args below meth c H locs ls X hR hL hl => by
    obtain ⟨C, T, M, ty0, hc, hk, hlk, hdd, hfin, hin, hty, hnm, hdecl⟩ := hF
    have hdecl := hdecl rfl
    have hK := X.2.2.2.2.2.2.2.2.1
    have hts := X.2.2.2.2.2.2.2.1
    have hap := va_apart (own := own) hts hin ty0 hty hnm hK hc
    obtain ⟨r, h1, cell, q1, q2, q3, q4⟩ := (hR.1 a _ ho).2.2
    have hr : r = (C, T, M) := Option.some.inj (h1.symm.trans hc)
    subst hr
    obtain ⟨hS, hfc, kC, hkC, hkind⟩ := hK.1 ci _ hc
    obtain ⟨cf, kf, fi, f, hi, hsl⟩ := hS k hk
    have hlay := hts _ (hin _ (u_in_lay hk))
    unfold u_lay at hlay
    rw [if_pos hfin] at hlay
    have hst := (u_facts hfc hkC (u_lays hts hin hk) hi).1
    have hown := X.2.2.2.2.2.1
    have hcf : m.cls = cf := by
      obtain ⟨_, _, c', _, _, _, -, -, hf', -, -, -, hown2, -⟩ := Cond.laysFinal_spec hlay
      have e1 : c' = cf := by have := hi.symm.trans hf'; simp at this; exact this.1.symm
      rw [hdecl] at hown2
      rw [← e1]; exact Option.some.inj (hown.symm.trans hown2)
    have h6 := u_fits hfc hkC hkind (Or.inr hlay) hi hdd hn hf
    refine W.putFinK X.1 X.2.1 hown (hts _ hlk) hi hst hcf (by rw [X.2.2.2.2.2.2.1]; exact hi0) (by rw [q2]; exact h6) q1 q3 (by rw [hsl]; exact k2_hasslot (q4 k hk)) rfl rfl hd fun H' e1 e2 e3 => ?_
    rw [hsl] at e1 ⊢
    have hset : (fs.map (gt_v G)).set k (gt_v G v) = (fs.set k v).map (gt_v G) := by rw [List.map_set]
    refine kk p e s m args below meth c H' _ ls X (gt_R_up hR ho ⟨_, hc, ?_⟩ e2 e3) (fun q hq => ?_) hl
    · show t_OB _ _ _ _ _ (vp_V ((fs.set k v).map (gt_v G)))
      rw [← hset]
      exact t_OB.to (V := updV (vp_V (fs.map (gt_v G))) k (gt_v G v)) ⟨_, e1, q2, q3, t_set q4 hap hk (gt_v G v)⟩ (fun j _ => vp_updV_set (by rw [List.length_map]; exact hl0) (gt_v G v) j)
    · rcases List.mem_append.mp hq with hq | hq
      · exact hL q hq
      · rw [List.mem_singleton.mp hq]; exact gt_ad_lt hR ho
theorem ga_iald {a n : Nat} {f : Nat → Int32} {i : Int32} (ho : h a = some (oI n f)) (hi : vp_in i n) (hd : decode cc pc = .ok (.iaload, 1)) (kk : gt_A l G own nm cc mL rt R Z N (pc + 1) lv (.int (f i.toNatClampNeg) :: st) h) : gt_A l G own nm cc mL rt R Z N pc lv (.int i :: .ref a :: st) h :=
  fun p e s m args below meth c H locs ls X hR hL hl => va_iald X.1 X.2.1 X.2.2.2.2.2.2.2.2.1 (gt_R_P hR ho) 0 0 rfl rfl hi hd (kk p e s m args below meth c H locs ls X hR hL hl)
theorem ga_zald {a n : Nat} {f : Nat → Int32} {i : Int32} (ho : h a = some (oZ n f)) (hi : vp_in i n) (hd : decode cc pc = .ok (.baload, 1)) (kk : gt_A l G own nm cc mL rt R Z N (pc + 1) lv (.int (f i.toNatClampNeg) :: st) h) : gt_A l G own nm cc mL rt R Z N pc lv (.int i :: .ref a :: st) h :=
  fun p e s m args below meth c H locs ls X hR hL hl => va_zald X.1 X.2.1 X.2.2.2.2.2.2.2.2.1 (gt_R_P hR ho) 0 1 rfl rfl hi hd (kk p e s m args below meth c H locs ls X hR hL hl)
/-- an element of an array of references -/
theorem ga_aald {a kd n b : Nat} {ty : FieldType} {f : Nat → Option Nat} {i : Int32} (ho : h a = some (oR kd n f)) (ht : (gt_tys G)[kd]? = some (G.2.1 kd, ty)) (hty : ty.isReference = true) (hi : vp_in i n) (hb : f i.toNatClampNeg = some b) (hd : decode cc pc = .ok (.aaload, 1)) (kk : gt_A l G own nm cc mL rt R Z N (pc + 1) lv (.ref b :: st) h) : gt_A l G own nm cc mL rt R Z N pc lv (.int i :: .ref a :: st) h :=
  fun p e s m args below meth c H locs ls X hR hL hl => by
    have hlt : i.toNatClampNeg < n := Nat.not_le.mp fun q => hi (Or.inr q)
    have hc : H[gt_ad G a]? = some (vp_cell (G.2.1 kd) (n, .inr (.inr (.inr (.inr (fun j => (f j).map (gt_ad G))))))) := (hR.1 a _ ho).2.2
    refine W.aald (v := va_rf ((f i.toNatClampNeg).map (gt_ad G))) (ty := ty) X.1 X.2.1 hc ((X.2.2.2.2.2.2.2.2.1.2 kd _ ht).1 n (fun j => va_rf ((f j).map (gt_ad G)))) hty (fun q => by cases q) (by show ¬ (i < 0 ∨ (arrV _ _ _).slots.size ≤ _); rw [arrV_size]; exact hi) (by show (arrV _ _ _).slots[_]? = _; rw [arrV_read _ _ hlt]) rfl rfl hd ?_
    rw [hb]
    exact kk p e s m args below meth c H locs ls X hR hL hl
theorem ga_alen {a n : Nat} {f : Nat → Int32} (ho : h a = some (oI n f)) (hd : decode cc pc = .ok (.arraylength, 1)) (kk : gt_A l G own nm cc mL rt R Z N (pc + 1) lv (.int (Int32.ofNat n) :: st) h) : gt_A l G own nm cc mL rt R Z N pc lv (.ref a :: st) h :=
  fun p e s m args below meth c H locs ls X hR hL hl => va_alen X.1 X.2.1 X.2.2.2.2.2.2.2.2.1 (gt_R_P hR ho) 0 0 (cA := G.2.1 0) (x := (n, .inl f)) rfl rfl rfl hd (kk p e s m args below meth c H locs ls X hR hL hl)
theorem ga_iast {a n : Nat} {f : Nat → Int32} {i x : Int32} (ho : h a = some (oI n f)) (hi : vp_in i n) (hd : decode cc pc = .ok (.iastore, 1)) (kk : gt_A l G own nm cc mL rt R Z N (pc + 1) lv st (gt_up h a (oI n (upd f i.toNatClampNeg x)))) : gt_A l G own nm cc mL rt R Z N pc lv (.int x :: .int i :: .ref a :: st) h :=
  fun p e s m args below meth c H locs ls X hR hL hl => by
    have hc : H[gt_ad G a]? = some (vp_cell (G.2.1 0) (n, .inl f)) := (hR.1 a _ ho).2.2
    refine W.iast X.1 X.2.1 hc ((X.2.2.2.2.2.2.2.2.1.2 0 _ rfl).1 n (fun j => .int (f j))) (fun q => by cases q) (by show ¬ (i < 0 ∨ (arrV _ _ _).slots.size ≤ _); rw [arrV_size]; exact hi) rfl rfl hd fun H1 e1 z oq => ?_
    refine kk p e s m args below meth c H1 _ ls X (gt_R_up hR ho ?_ z oq) (fun q hq => ?_) hl
    · show H1[_]? = some (vp_cell _ _)
      rw [e1, vp_cell_i, vp_cell_i, arrV_store]
      congr 2
      funext q
      by_cases hq : q = i.toNatClampNeg
      · subst hq
        simp [updV, upd]
      · simp [updV, upd, hq]
    · rcases List.mem_append.mp hq with hq | hq
      · exact hL q hq
      · rw [List.mem_singleton.mp hq]; exact gt_ad_lt hR ho
theorem ga_zast {a n : Nat} {f : Nat → Int32} {i x : Int32} (ho : h a = some (oZ n f)) (hi : vp_in i n) (hx : narrow .boolean (.int x) = .int x) (hd : decode cc pc = .ok (.bastore, 1)) (kk : gt_A l G own nm cc mL rt R Z N (pc + 1) lv st (gt_up h a (oZ n (upd f i.toNatClampNeg x)))) : gt_A l G own nm cc mL rt R Z N pc lv (.int x :: .int i :: .ref a :: st) h :=
  fun p e s m args below meth c H locs ls X hR hL hl => by
    have hc : H[gt_ad G a]? = some (vp_cell (G.2.1 1) (n, .inl f)) := (hR.1 a _ ho).2.2
    refine W.zast X.1 X.2.1 hc ((X.2.2.2.2.2.2.2.2.1.2 1 _ rfl).1 n (fun j => .int (f j))) (fun q => by cases q) (by show ¬ (i < 0 ∨ (arrV _ _ _).slots.size ≤ _); rw [arrV_size]; exact hi) rfl rfl hd fun H1 e1 z oq => ?_
    refine kk p e s m args below meth c H1 _ ls X (gt_R_up hR ho ?_ z oq) (fun q hq => ?_) hl
    · show H1[_]? = some (vp_cell _ _)
      rw [e1, hx, vp_cell_i, vp_cell_i, arrV_store]
      congr 2
      funext q
      by_cases hq : q = i.toNatClampNeg
      · subst hq
        simp [updV, upd]
      · simp [updV, upd, hq]
    · rcases List.mem_append.mp hq with hq | hq
      · exact hL q hq
      · rw [List.mem_singleton.mp hq]; exact gt_ad_lt hR ho
/-- an element of the script, which is object 0 -/
theorem ga_sld {i : Int32} (hi : vp_in i G.2.2.2.2.1) (hd : decode cc pc = .ok (.iaload, 1)) (kk : gt_A l G own nm cc mL rt R Z N (pc + 1) lv (.int (G.2.2.2.2.2 i.toNatClampNeg) :: st) h) : gt_A l G own nm cc mL rt R Z N pc lv (.int i :: .ref 0 :: st) h :=
  fun p e s m args below meth c H locs ls X hR hL hl => va_sld (A := fun q => gt_B G ≤ q) (H0 := G.2.2.2.1) (b := G.2.2.1) X.1 X.2.1 X.2.2.2.2.2.2.2.2.2.1 X.2.2.2.2.2.2.2.2.2.2.1 (Nat.not_le.mpr X.2.2.2.2.2.2.2.2.2.2.1) (locs := locs) ⟨by rw [hR.2.1]; exact Nat.le_add_right _ _, fun q h1 _ => hR.2.2 q h1, hL⟩ hi hd (kk p e s m args below meth c H locs ls X hR hL hl)
theorem ga_slen (hd : decode cc pc = .ok (.arraylength, 1)) (kk : gt_A l G own nm cc mL rt R Z N (pc + 1) lv (.int (Int32.ofNat G.2.2.2.2.1) :: st) h) : gt_A l G own nm cc mL rt R Z N pc lv (.ref 0 :: st) h :=
  fun p e s m args below meth c H locs ls X hR hL hl => va_slen (A := fun q => gt_B G ≤ q) (H0 := G.2.2.2.1) (b := G.2.2.1) X.1 X.2.1 X.2.2.2.2.2.2.2.2.2.1 X.2.2.2.2.2.2.2.2.2.2.1 (Nat.not_le.mpr X.2.2.2.2.2.2.2.2.2.2.1) (locs := locs) ⟨by rw [hR.2.1]; exact Nat.le_add_right _ _, fun q h1 _ => hR.2.2 q h1, hL⟩ hd (kk p e s m args below meth c H locs ls X hR hL hl)
theorem gt_catsum (st : List Value) : ((st.map (gt_v G)).map fun v => v.category).sum = (st.map fun v => v.category).sum := by
  rw [List.map_map]
  congr 1
  apply List.map_congr_left
  intro v _
  exact gt_cat v
theorem ga_max {idx : Nat} {x y : Int32} (hl1 : Cond.methodLink own idx Lib.Math.max.name ∈ gt_tbl) (h2 : Cond.static Lib.Math.max.name ∈ gt_tbl ∧ Cond.initialized "java/lang/Math" ∈ gt_tbl ∧ Cond.code Lib.Math.max.name Lib.Math.max.code 2 (some .int) ∈ gt_tbl) (hr : 1 ≤ R.frames ∧ 40 ≤ R.locals ∧ N.2.1 ≤ R.cells ∧ N.2.2 ≤ R.slots) (hs : (st.map fun v => v.category).sum ≤ 8) (hd : decode cc pc = .ok (.invokestatic idx, 3)) (kk : gt_A l G own nm cc mL rt R Z N (pc + 3) lv (.int (if x < y then y else x) :: st) h) : gt_A l G own nm cc mL rt R Z N pc lv (.int y :: .int x :: st) h :=
  fun p e s m args below meth c H locs ls X hR hL hl => va_mmax X.1 X.2.1 (by rw [hl.1]; exact X.2.2.1) X.2.2.2.2.2.1 (X.2.2.2.2.2.2.2.1 _ hl1) (X.2.2.2.2.2.2.2.1 _ h2.1) (X.2.2.2.2.2.2.2.1 _ h2.2.1) (X.2.2.2.2.2.2.2.1 _ h2.2.2) hr.1 (by rw [gt_catsum]; omega) hr.2.2.1 hr.2.2.2 hd (kk p e s m args below meth c H locs ls X hR hL hl)
theorem ga_min {idx : Nat} {x y : Int32} (hl1 : Cond.methodLink own idx Lib.Math.min.name ∈ gt_tbl) (h2 : Cond.static Lib.Math.min.name ∈ gt_tbl ∧ Cond.initialized "java/lang/Math" ∈ gt_tbl ∧ Cond.code Lib.Math.min.name Lib.Math.min.code 2 (some .int) ∈ gt_tbl) (hr : 1 ≤ R.frames ∧ 40 ≤ R.locals ∧ N.2.1 ≤ R.cells ∧ N.2.2 ≤ R.slots) (hs : (st.map fun v => v.category).sum ≤ 8) (hd : decode cc pc = .ok (.invokestatic idx, 3)) (kk : gt_A l G own nm cc mL rt R Z N (pc + 3) lv (.int (if y < x then y else x) :: st) h) : gt_A l G own nm cc mL rt R Z N pc lv (.int y :: .int x :: st) h :=
  fun p e s m args below meth c H locs ls X hR hL hl => va_mmin X.1 X.2.1 (by rw [hl.1]; exact X.2.2.1) X.2.2.2.2.2.1 (X.2.2.2.2.2.2.2.1 _ hl1) (X.2.2.2.2.2.2.2.1 _ h2.1) (X.2.2.2.2.2.2.2.1 _ h2.2.1) (X.2.2.2.2.2.2.2.1 _ h2.2.2) hr.1 (by rw [gt_catsum]; omega) hr.2.2.1 hr.2.2.2 hd (kk p e s m args below meth c H locs ls X hR hL hl)
theorem ga_abs {idx : Nat} {x : Int32} (hl1 : Cond.methodLink own idx Lib.Math.abs.name ∈ gt_tbl) (h2 : Cond.static Lib.Math.abs.name ∈ gt_tbl ∧ Cond.initialized "java/lang/Math" ∈ gt_tbl ∧ Cond.code Lib.Math.abs.name Lib.Math.abs.code 1 (some .int) ∈ gt_tbl) (hr : 1 ≤ R.frames ∧ 40 ≤ R.locals ∧ N.2.1 ≤ R.cells ∧ N.2.2 ≤ R.slots) (hs : (st.map fun v => v.category).sum ≤ 8) (hd : decode cc pc = .ok (.invokestatic idx, 3)) (kk : gt_A l G own nm cc mL rt R Z N (pc + 3) lv (.int (if 0 ≤ x then x else 0 - x) :: st) h) : gt_A l G own nm cc mL rt R Z N pc lv (.int x :: st) h :=
  fun p e s m args below meth c H locs ls X hR hL hl => va_mabs X.1 X.2.1 (by rw [hl.1]; exact X.2.2.1) X.2.2.2.2.2.1 (X.2.2.2.2.2.2.2.1 _ hl1) (X.2.2.2.2.2.2.2.1 _ h2.1) (X.2.2.2.2.2.2.2.1 _ h2.2.1) (X.2.2.2.2.2.2.2.1 _ h2.2.2) hr.1 (by rw [gt_catsum]; omega) hr.2.2.1 hr.2.2.2 hd (kk p e s m args below meth c H locs ls X hR hL hl)
end GH
