/-! MAKING: heaps as lists of objects (number k is the (k - 1)st) -/
def gt_lst (L : List gt_Ob) : gt_H := fun a => match a with
  | 0 => none
  | a + 1 => L[a]?
theorem gt_lst_s (L : List gt_Ob) (a : Nat) : gt_lst L (a + 1) = L[a]? := rfl
theorem gt_lst_push {L : List gt_Ob} {o : gt_Ob} {n : Nat} (hn : L.length = n) : gt_up (gt_lst L) (n + 1) o = gt_lst (L ++ [o]) := by
  subst hn
  funext k
  unfold gt_up
  cases k with
  | zero => rw [if_neg (by omega)]; rfl
  | succ k =>
    rw [gt_lst_s, gt_lst_s]
    by_cases e : k = L.length
    · rw [if_pos (by omega), e, List.getElem?_append_right (Nat.le_refl _), Nat.sub_self]; rfl
    · rw [if_neg (by omega)]
      rcases Nat.lt_or_ge k L.length with q | q
      · rw [List.getElem?_append_left q]
      · rw [List.getElem?_eq_none q, List.getElem?_eq_none (by rw [List.length_append]; show L.length + 1 ≤ k; omega)]
theorem gt_lst_pushA {L0 xs ys : List gt_Ob} {o : gt_Ob} {n k : Nat} (hn : L0.length = n) (hk : xs.length = k) (hy : xs ++ [o] = ys) : gt_up (gt_lst (L0 ++ xs)) (n + k + 1) o = gt_lst (L0 ++ ys) := by
  subst hy
  rw [gt_lst_push (L := L0 ++ xs) (by rw [List.length_append, hn, hk]), List.append_assoc]
theorem gt_lst_set {L : List gt_Ob} {o : gt_Ob} {i : Nat} (hi : i < L.length) : gt_up (gt_lst L) (i + 1) o = gt_lst (L.set i o) := by
  funext k
  unfold gt_up
  cases k with
  | zero => rw [if_neg (by omega)]; rfl
  | succ k =>
    rw [gt_lst_s, gt_lst_s]
    by_cases e : k = i
    · subst e; rw [if_pos rfl, List.getElem?_set_self hi]
    · rw [if_neg (by omega), List.getElem?_set_ne (fun z => e z.symm)]
theorem gt_lst_setA {L0 xs ys : List gt_Ob} {o : gt_Ob} {n i : Nat} (hn : L0.length = n) (hi : i < xs.length) (hy : xs.set i o = ys) : gt_up (gt_lst (L0 ++ xs)) (n + 1 + i) o = gt_lst (L0 ++ ys) := by
  subst hy
  rw [show n + 1 + i = n + i + 1 by omega, gt_lst_set (by rw [List.length_append]; omega), List.set_append_right _ _ (by omega), hn, Nat.add_sub_cancel_left]
theorem gt_lst_at {L0 xs : List gt_Ob} {o : gt_Ob} {n i : Nat} (hn : L0.length = n) (hx : xs[i]? = some o) : gt_lst (L0 ++ xs) (n + 1 + i) = some o := by
  rw [show n + 1 + i = n + i + 1 by omega, gt_lst_s, List.getElem?_append_right (by omega), hn, Nat.add_sub_cancel_left, hx]
theorem gt_lst_set1 {o o' : gt_Ob} {R B : List gt_Ob} : gt_up (gt_lst ((o :: R) ++ B)) 1 o' = gt_lst (o' :: (R ++ B)) := gt_lst_set (L := (o :: R) ++ B) (i := 0) (by show 0 < _ + 1; omega)
theorem gt_lst_set1' {o o' : gt_Ob} {R : List gt_Ob} : gt_up (gt_lst (o :: R)) 1 o' = gt_lst (o' :: R) := gt_lst_set (L := o :: R) (i := 0) (by show 0 < _ + 1; omega)
abbrev gt_z : Nat → Int32 := fun _ => 0
theorem gt_lst_rows {L : List gt_Ob} {n N M : Nat} (hn : L.length = n) : gt_rows (gt_lst L) n N M = gt_lst (L ++ (oR 4 N (fun i => if i < N then some (n + 2 + i) else none) :: List.replicate N (oI M gt_z))) := by
  subst hn
  funext k
  unfold gt_rows
  cases k with
  | zero => rw [if_neg (by omega), if_neg (by omega)]; rfl
  | succ k =>
    rw [gt_lst_s, gt_lst_s]
    by_cases e : k = L.length
    · rw [if_pos (by omega), e, List.getElem?_append_right (Nat.le_refl _), Nat.sub_self]; rfl
    · rw [if_neg (by omega)]
      rcases Nat.lt_or_ge k L.length with q | q
      · rw [if_neg (by omega), List.getElem?_append_left q]
      · rw [List.getElem?_append_right q]
        obtain ⟨j, hj⟩ : ∃ j, k - L.length = j + 1 := ⟨k - L.length - 1, by omega⟩
        rw [hj, List.getElem?_cons_succ]
        by_cases q2 : k + 1 < L.length + 2 + N
        · rw [if_pos (by omega), List.getElem?_replicate, if_pos (by omega)]
        · rw [if_neg (by omega), List.getElem?_replicate, if_neg (by omega), List.getElem?_eq_none q]
theorem gt_lst_rowsA {L0 xs ys : List gt_Ob} {n k N M : Nat} (hn : L0.length = n) (hk : xs.length = k) (hy : xs ++ (oR 4 N (fun i => if i < N then some (n + k + 2 + i) else none) :: List.replicate N (oI M gt_z)) = ys) : gt_rows (gt_lst (L0 ++ xs)) (n + k) N M = gt_lst (L0 ++ ys) := by
  subst hy
  rw [gt_lst_rows (L := L0 ++ xs) (by rw [List.length_append, hn, hk]), List.append_assoc]
/-- a contract that makes objects, its end told by a property -/
def gt_ZE (G : gt_G) (n mc ms : Nat) (Post : Option Value → gt_W → Prop) : gt_Zt := fun below args s => MQ below (gt_QD G n Post) args s mc ms (fun q => gt_B G ≤ q)
def gt_E (l : Launch) (G : gt_G) (y : MethodName) (cc : ByteArray) (mL : Nat) (rt : Option FieldType) (d mc ms n : Nat) (as : List Value) (h : gt_H) (Post : Option Value → gt_W → Prop) : Prop :=
  Met l y (.code y cc mL rt :: gt_tbl) (gt_rm d mc ms) (gt_P G n as h) (gt_QD G (n + mc) Post) mc ms (fun q => gt_B G ≤ q)
theorem gt_E_of {l : Launch} {G : gt_G} {y : MethodName} {own nm : String} {cc : ByteArray} {mL : Nat} {rt : Option FieldType} {d mc ms n : Nat} {as : List Value} {h : gt_H} {Post : Option Value → gt_W → Prop} (hown : y.cls = own) (hnm : y.name = nm) (hpl : plainName y.cls = true) (hlen : (lg_sl (as.map (gt_v G))).length ≤ mL)
    (body : gt_A l G own nm cc mL rt (gt_rm d mc ms) (gt_ZE G (n + mc) mc ms Post) (n, 0, 0) 0 (lv_args 0 as) [] h) : gt_E l G y cc mL rt d mc ms n as h Post := by
  refine Met.ofW (cc := cc) (maxL := mL) (ret := rt) hpl rfl ?_
  intro p e s m args below meth c s₁ B hml hv
  obtain ⟨rfl, hR, hK⟩ := hv
  have hts := atoms_spec (ws := .code y cc mL rt :: gt_tbl) B.pre
  have hX : gt_X G own nm cc mL rt p s m ((as.map (gt_v G)).toArray) meth c := ⟨B.exec, B.bytes, hml, B.returns, B.notSynchronized, by rw [← hown]; exact findClass_of_methodNamed B.named, by rw [← hnm]; exact (name_of_methodNamed B.named B.method).1, fun w hw => hts w (List.mem_cons_of_mem _ hw), hK⟩
  have hl := lv_entry (as.map (gt_v G)) (n := mL) hlen
  rw [lg_entry_eq]
  have hl2 : lv_args 0 (as.map (gt_v G)) = gt_lm G (lv_args 0 as) := by
    have key : ∀ (xs : List Value) (i : Nat), lv_args i (xs.map (gt_v G)) = gt_lm G (lv_args i xs) := by
      intro xs
      induction xs with
      | nil => intro i; rfl
      | cons x xs ih =>
        intro i
        have hc : (gt_v G x).category = x.category := by cases x <;> rfl
        show lv_args i (gt_v G x :: xs.map (gt_v G)) = gt_lm G (lv_args i (x :: xs))
        simp only [lv_args, gt_lm, List.map_cons, hc]
        rw [ih]
        rfl
    exact key as 0
  rw [hl2] at hl
  exact body p e s m _ below meth c s.heap [] _ hX hR (fun q hq => by cases hq) hl
section GEE
variable {l : Launch} {G : gt_G} {own nm : String} {cc : ByteArray} {mL : Nat} {rt : Option FieldType} {R : Room} {Z : gt_Zt} {n uc us : Nat} {pc : Nat} {lv : List (Nat × Value)} {st : List Value} {h : gt_H}
theorem gee_vret {Post : Option Value → gt_W → Prop} {w : gt_W} {mc ms : Nat} (hd : decode cc pc = .ok (.return_, 1)) (hp : Post none w) : gt_A l G own nm cc mL none R (gt_ZE G n mc ms Post) (n, mc, ms) pc lv [] (gt_enc w) :=
  fun p e s m args below meth c H locs ls X hR hL hl => W.vret (Qc := gt_QD G n Post) X.1 X.2.1 X.2.2.2.1 (fun t ht _ => ⟨none, w, rfl, hp, by rw [ht]; exact hR⟩) hL hd X.2.2.2.2.1
theorem gee_goes {p : Program} {e : Env} {s : State} {m : MethodId} {args : Array Value} {below : List Frame} {meth : Method} {c : Code} {H : Heap} {locs : List Loc} {ls : Array Slot} {st0 rest : List Value} {a0 : Array Value} {mc ms n1 : Nat} {Post : Option Value → gt_W → Prop} {Q : State → Prop}
    (hrun : va_Run p l e R s m args below meth c H locs uc us mc ms (F0 m pc ls st0) rest (gt_QD G n1 Post a0) (fun q => gt_B G ≤ q)) (hL : ∀ q ∈ locs, gt_B G ≤ q.base)
    (kk : ∀ (r : Option Value) (w' : gt_W) (H1 : Heap) (locs1 : List Loc), Post r w' → gt_R G n1 (gt_enc w') H1 → (∀ q ∈ locs1, gt_B G ≤ q.base) → W p l e R s m args below meth c H1 locs1 (uc + mc) (us + ms) Q (F0 m (pc + 3) ls ((r.map (gt_v G)).toList ++ rest))) : W p l e R s m args below meth c H locs uc us Q (F0 m pc ls st0) := by
  intro T hT X
  obtain ⟨v, st₀, t, T', L, h0, X', hL1, e1, e2, ⟨r, w', hv, hp, hR1⟩, stp⟩ := hrun T hT X
  cases hv
  obtain ⟨t2, a1, b1⟩ := kk r w' T'.heap (locs ++ L) hp (by rw [e1]; exact hR1) (fun q hq => by
    rcases List.mem_append.mp hq with hq | hq
    · exact hL q hq
    · exact hL1 q hq) T' rfl X'
  exact ⟨t2, stp t2 a1, b1⟩
theorem gee_callI {idx b d' mc' ms' mL' : Nat} {y : MethodName} {cc' : ByteArray} {Post : Option Value → gt_W → Prop} (hl1 : Cond.methodLink own idx y ∈ gt_tbl) (hV : gt_I y cc' mL' 0) (hC : gt_E l G y cc' mL' none d' mc' ms' n [.ref b] h Post) (hroom : gt_rc R d' uc us mc' ms') (hs : (st.map fun v => v.category).sum ≤ 8) (hd : decode cc pc = .ok (.invokespecial idx, 3))
    (kk : ∀ (r : Option Value) (w' : gt_W), Post r w' → gt_A l G own nm cc mL rt R Z (n + mc', uc + mc', us + ms') (pc + 3) lv (r.toList ++ st) (gt_enc w')) : gt_A l G own nm cc mL rt R Z (n, uc, us) pc lv (.ref b :: st) h :=
  fun p e s m args below meth c H locs ls X hR hL hl => by
    obtain ⟨v0, v1, v3, v4, v5, v6⟩ := hV
    have hts := X.2.2.2.2.2.2.2.1
    have hK := X.2.2.2.2.2.2.2.2
    have cw : CallB R s args own idx y cc' mL' none (.code y cc' mL' none :: gt_tbl) (gt_rm d' mc' ms') mc' ms' 0 ∧ y.name = "<init>" ∧ (Cond.instanceMethod y).before args s = true :=
      ⟨callB_of 0 hts (gt_tbl_good v4) rfl rfl rfl (hts _ v3) (hts _ hl1) v5 ⟨hroom.1, by have := hroom.2.1; show 8 + (mL' + 11) + 40 * d' ≤ _; omega⟩, v0, hts _ v1⟩
    have hrun := va_runI (g := F0 m pc ls (.ref (gt_ad G b) :: st.map (gt_v G))) (locs := locs) (below := below) (meth := meth) (e := e) (H := H) ⟨X.1, X.2.1, X.2.2.1, X.2.2.2.2.2.1, hts⟩ hC cw (b := gt_ad G b) (As := []) ⟨gt_P_blind G n _ h, gt_pre (y := y) (as := [.ref b]) hR hK⟩ rfl rfl hl.1 (rest := st.map (gt_v G)) rfl (gt_roomF hs) hd ⟨hroom.2.2.1, hroom.2.2.2⟩
    refine gee_goes hrun hL (fun r w' H1 locs1 hp hR1 hL1 => ?_)
    rw [gt_map_toList]
    exact kk r w' hp p e s m args below meth c H1 locs1 ls X hR1 hL1 hl
theorem ga_less {h' : gt_H} {N : Nat × Nat × Nat} (e : ∀ k o, h' k = some o → h k = some o) (kk : gt_A l G own nm cc mL rt R Z N pc lv st h') : gt_A l G own nm cc mL rt R Z N pc lv st h :=
  fun p e1 s m args below meth c H locs ls X hR hL hl => kk p e1 s m args below meth c H locs ls X ⟨fun k o q => hR.1 k o (e k o q), hR.2⟩ hL hl
end GEE
theorem gt_roomC {d mc ms : Nat} (hd : 1 ≤ d) : 1 ≤ (gt_rm d mc ms).frames ∧ 40 ≤ (gt_rm d mc ms).locals := ⟨hd, by show 40 ≤ 40 * d; omega⟩
