/-! numbers: what the class and the reference compute, over Nat -/
theorem isS20 : gt_isS 20 := Or.inl rfl
theorem isS25 : gt_isS 25 := Or.inr (Or.inl rfl)
theorem isSr {j : Nat} (h : j < 16) : gt_isS (32 + 5 * j) := Or.inr (Or.inr (Or.inr (Or.inr ⟨j, h, rfl⟩)))
theorem isSi {i : Nat} (h : i < 2) : gt_isS (150 + 6 * i) := by
  rcases (show i = 0 ∨ i = 1 by omega) with rfl | rfl
  · exact Or.inr (Or.inr (Or.inl rfl))
  · exact Or.inr (Or.inr (Or.inr (Or.inl rfl)))
/-- 1 if 0 ≤ x < n -/
def gx_in (x n : Int32) : Int32 := if 0 ≤ x ∧ x < n then nI 1 else nI 0
theorem gx_in_t {x n : Int32} (h1 : ¬ x < 0) (h2 : ¬ n ≤ x) : gx_in x n = nI 1 := if_pos ⟨Int32.not_lt.mp h1, Int32.not_le.mp h2⟩
theorem gx_in_f1 {x n : Int32} (h1 : x < 0) : gx_in x n = nI 0 := if_neg (fun q => absurd h1 (Int32.not_lt.mpr q.1))
theorem gx_in_f2 {x n : Int32} (h1 : n ≤ x) : gx_in x n = nI 0 := if_neg (fun q => absurd h1 (Int32.not_le.mpr q.2))
theorem gx_in_of {x : Int32} {n : Nat} (hn : n < 2 ^ 31) (h : ¬ gx_in x (nI n) = 0) : ∃ k, k < n ∧ x = nI k := by
  unfold gx_in at h
  by_cases hq : 0 ≤ x ∧ x < nI n
  · obtain ⟨j, hj, rfl⟩ := nI_of (Int32.not_lt.mpr hq.1)
    exact ⟨j, (nI_ltI hj hn).mp hq.2, rfl⟩
  · rw [if_neg hq] at h
    exact absurd rfl h
theorem gx_in_nI {k n : Nat} (h : k < n) (hn : n < 2 ^ 31) : gx_in (nI k) (nI n) = nI 1 := if_pos ⟨nI_pos' (by omega), nI_lt h hn⟩
theorem gx_in_z {x : Int32} {n : Nat} (hn : n < 2 ^ 31) (h : gx_in x (nI n) = 0) : ∀ k, k < n → x ≠ nI k := by
  rintro k hk rfl
  rw [gx_in_nI hk hn] at h
  exact absurd h (by decide)
def gx_dist (a b : Nat) : Nat := if a ≤ b then b - a else a - b
/-- what a tower bears -/
def gx_bears (wd fl tc k : Nat) : Nat := wd - fl * gx_dist k tc
def gx_sum (f : Nat → Nat) : Nat → Nat
  | 0 => 0
  | k + 1 => gx_sum f k + f k
theorem gx_sum_le {f : Nat → Nat} {b : Nat} : ∀ n, (∀ k, k < n → f k ≤ b) → gx_sum f n ≤ n * b
  | 0, _ => Nat.zero_le _
  | n + 1, h => by
    have h1 := gx_sum_le n (fun k hk => h k (by omega))
    have h2 := h n (by omega)
    show gx_sum f n + f n ≤ (n + 1) * b
    rw [Nat.succ_mul]
    omega
theorem gx_sum_congr {f g : Nat → Nat} : ∀ n, (∀ k, k < n → f k = g k) → gx_sum f n = gx_sum g n
  | 0, _ => rfl
  | n + 1, h => by
    show gx_sum f n + f n = gx_sum g n + g n
    rw [gx_sum_congr n (fun k hk => h k (by omega)), h n (by omega)]
theorem gx_absN {a b : Nat} (ha : a < 2 ^ 30) (hb : b < 2 ^ 30) : (if 0 ≤ nI a - nI b then nI a - nI b else 0 - (nI a - nI b)) = nI (gx_dist a b) := by
  unfold gx_dist
  by_cases h : b ≤ a
  · rw [pk_sub h, if_pos (nI_pos' (by omega))]
    by_cases h2 : a ≤ b
    · rw [if_pos h2, show a = b by omega]
    · rw [if_neg h2]
  · have h3 : nI a - nI b < 0 := pk_sneg hb (by omega)
    rw [if_neg (Int32.not_le.mpr h3), if_pos (by omega), ← pk_sub (show a ≤ b by omega)]
    have : ∀ x y : Int32, 0 - (x - y) = y - x := fun x y => by
      apply Int32.toBitVec_inj.mp
      simp [Int32.toBitVec_sub]
    exact this _ _
theorem gx_max0 {a b : Nat} (ha : a < 2 ^ 30) (hb : b < 2 ^ 30) : (if nI 0 < nI a - nI b then nI a - nI b else nI 0) = nI (a - b) := by
  by_cases h : b < a
  · rw [pk_sub (by omega), if_pos (nI_lt (by omega) (by omega))]
  · have : ¬ nI 0 < nI a - nI b := by
      rcases Nat.lt_or_ge a b with q | q
      · exact fun z => Int32.lt_irrefl (Int32.lt_trans (pk_sneg hb q) z)
      · rw [pk_sub q, show a - b = 0 by omega]; decide
    rw [if_neg this, show a - b = 0 by omega]
theorem gx_max0' {a b : Nat} (ha : a < 2 ^ 30) (hb : b < 2 ^ 30) : (if nI a - nI b < nI 0 then nI 0 else nI a - nI b) = nI (a - b) := by
  rcases Nat.lt_or_ge a b with q | q
  · have := pk_sneg hb q
    rw [if_pos (show nI a - nI b < nI 0 from this), show a - b = 0 by omega]
  · rw [pk_sub q, if_neg (by rw [nI_ltI (by omega) (by omega)]; omega)]
/-- the coast's numbers: K 0: cells, towers, players, boats; K 1: ground; 2: the towers' cells; 3: falls; 4: arms; 5: draughts; 6: from; 7: to -/
abbrev gx_K : Type := Nat → Nat → Nat
/-- a state's numbers: V 0 0: hours; V 1: wound; V 2: seats (0: none, t + 1: tower t); V 3: tired; V 4: places -/
def gx_seat (v : Nat) : Int32 := nI v - 1
theorem gx_seat_0 : gx_seat 0 = -1 := by decide
theorem gx_seat_s (t : Nat) : gx_seat (t + 1) = nI t := nI_pred t
def gx_n (K : gx_K) (i : Nat) : Nat := match i with
  | 1 => K 0 0
  | 2 => K 0 1
  | 3 => K 0 1
  | 4 => K 0 2
  | _ => K 0 3
/-- the class's coast at c holds K -/
def gx_Co (w : gt_W) (c : Nat) (K : gx_K) : Prop := (w c 0 = nI (K 0 0) ∧ w c 1 = nI (K 0 1) ∧ w c 2 = nI (K 0 2) ∧ w c 3 = nI (K 0 3)) ∧ (∀ j, j < K 0 0 → w (c + 1) j = nI (K 1 j)) ∧ (∀ j, j < K 0 1 → w (c + 2) j = nI (K 2 j)) ∧ (∀ j, j < K 0 1 → w (c + 3) j = nI (K 3 j)) ∧ (∀ j, j < K 0 2 → w (c + 4) j = nI (K 4 j)) ∧ (∀ j, j < K 0 3 → w (c + 5) j = nI (K 5 j)) ∧ (∀ j, j < K 0 3 → w (c + 6) j = nI (K 6 j)) ∧ (∀ j, j < K 0 3 → w (c + 7) j = nI (K 7 j))
def gx_KW (K : gx_K) : Prop := K 0 0 ≤ 10 ∧ K 0 1 ≤ 6 ∧ K 0 2 ≤ 6 ∧ K 0 3 ≤ 4 ∧ (∀ j, j < K 0 0 → K 1 j ≤ 60) ∧ (∀ j, j < K 0 1 → K 2 j < K 0 0) ∧ (∀ j, j < K 0 1 → 1 ≤ K 3 j ∧ K 3 j ≤ 20) ∧ (∀ j, j < K 0 2 → 1 ≤ K 4 j ∧ K 4 j ≤ 9) ∧ (∀ j, j < K 0 3 → 1 ≤ K 5 j ∧ K 5 j ≤ 30) ∧ (∀ j, j < K 0 3 → K 6 j < K 0 0) ∧ (∀ j, j < K 0 3 → K 7 j < K 0 0) ∧ K 0 0 ≠ 1
/-- the class's state at s holds V, with the sleepers m -/
def gx_St (w : gt_W) (s : Nat) (K : gx_K) (V : gx_K) (m : Int32) : Prop := w s 0 = nI (V 0 0) ∧ w s 1 = m ∧ (∀ j, j < K 0 1 → w (s + 1) j = nI (V 1 j)) ∧ (∀ j, j < K 0 2 → w (s + 2) j = gx_seat (V 2 j)) ∧ (∀ j, j < K 0 2 → w (s + 3) j = nI (V 3 j)) ∧ (∀ j, j < K 0 3 → w (s + 4) j = nI (V 4 j))
def gx_VW (K V : gx_K) : Prop := 0 ≤ V 0 0 ∧ (∀ j, j < K 0 1 → V 1 j ≤ 99) ∧ (∀ j, j < K 0 2 → V 2 j ≤ K 0 1) ∧ (∀ j, j < K 0 2 → V 3 j ≤ 99) ∧ (∀ j, j < K 0 3 → V 4 j < K 0 0)
/-- no two players at a tower -/
def gx_Vd (K V : gx_K) : Prop := ∀ i j, i < K 0 2 → j < K 0 2 → V 2 i = V 2 j → V 2 i ≠ 0 → i = j
/-- SEA, DEPTH -/
def gx_sea (K V : gx_K) (k : Nat) : Nat := gx_sum (fun t => gx_bears (V 1 t) (K 3 t) (K 2 t) k) (K 0 1)
def gx_dep (K V : gx_K) (k : Nat) : Nat := gx_sea K V k - K 1 k
theorem gx_sea_le {K V : gx_K} (kw : gx_KW K) (vw : gx_VW K V) (k : Nat) : gx_sea K V k ≤ 594 := by
  have h := gx_sum_le (f := fun t => gx_bears (V 1 t) (K 3 t) (K 2 t) k) (b := 99) (K 0 1) (fun t ht => by
    have := vw.2.1 t ht
    show gx_bears _ _ _ _ ≤ 99
    unfold gx_bears
    omega)
  have := kw.2.1
  have h2 : K 0 1 * 99 ≤ 6 * 99 := Nat.mul_le_mul_right 99 this
  exact Nat.le_trans h (by omega)
theorem gx_bearsN {wd fl tc k : Nat} (h1 : wd ≤ 99) (h2 : fl ≤ 20) (h3 : tc < 10) (h4 : k < 11) : (if nI 0 < nI wd - nI fl * (if 0 ≤ nI k - nI tc then nI k - nI tc else 0 - (nI k - nI tc)) then nI wd - nI fl * (if 0 ≤ nI k - nI tc then nI k - nI tc else 0 - (nI k - nI tc)) else nI 0) = nI (gx_bears wd fl tc k) := by
  have hd : gx_dist k tc ≤ 11 := by unfold gx_dist; split <;> omega
  have hm : fl * gx_dist k tc ≤ 20 * 11 := Nat.mul_le_mul h2 hd
  rw [gx_absN (by omega) (by omega), pk_mul, gx_max0 (by omega) (by omega)]
  rfl
/-! contracts whose end is told by a property of the memory -/
def gt_QD (G : gt_G) (n : Nat) (Post : Option Value → gt_W → Prop) : Array Value → State → Outcome → State → Prop := fun _ _ o t => ∃ (r : Option Value) (w' : gt_W), o = .returned (r.map (gt_v G)) ∧ Post r w' ∧ gt_R G n (gt_enc w') t.heap
def gt_ZD (G : gt_G) (n : Nat) (Post : Option Value → gt_W → Prop) : gt_Zt := fun below args s => MQ below (gt_QD G n Post) args s 0 0 (fun q => gt_B G ≤ q)
def gt_D (l : Launch) (G : gt_G) (y : MethodName) (cc : ByteArray) (mL : Nat) (rt : Option FieldType) (d n : Nat) (as : List Value) (w : gt_W) (Post : Option Value → gt_W → Prop) : Prop :=
  Met l y (.code y cc mL rt :: gt_tbl) (gt_rm d 0 0) (gt_P G n as (gt_enc w)) (gt_QD G n Post) 0 0 (fun q => gt_B G ≤ q)
theorem gt_D_of {l : Launch} {G : gt_G} {y : MethodName} {own nm : String} {cc : ByteArray} {mL : Nat} {rt : Option FieldType} {d n : Nat} {as : List Value} {w : gt_W} {Post : Option Value → gt_W → Prop} (hown : y.cls = own) (hnm : y.name = nm) (hpl : plainName y.cls = true) (hlen : (lg_sl (as.map (gt_v G))).length ≤ mL)
    (body : gt_A l G own nm cc mL rt (gt_rm d 0 0) (gt_ZD G n Post) (n, 0, 0) 0 (lv_args 0 as) [] (gt_enc w)) : gt_D l G y cc mL rt d n as w Post := by
  refine Met.ofW (cc := cc) (maxL := mL) (ret := rt) hpl rfl ?_
  intro p e s m args below meth c s₁ B hml hv
  obtain ⟨rfl, hR, hK⟩ := hv
  have hts := atoms_spec (ws := .code y cc mL rt :: gt_tbl) B.pre
  have hX : gt_X G own nm cc mL rt p s m ((as.map (gt_v G)).toArray) meth c := ⟨B.exec, B.bytes, hml, B.returns, B.notSynchronized, by rw [← hown]; exact findClass_of_methodNamed B.named, by rw [← hnm]; exact (name_of_methodNamed B.named B.method).1, fun w hw => hts w (List.mem_cons_of_mem _ hw), hK⟩
  have hl := lv_entry (as.map (gt_v G)) (n := mL) hlen
  rw [lg_entry_eq]
  have hl2 : lv_args 0 (as.map (gt_v G)) = gt_lm G (lv_args 0 as) := by
    have key : ∀ (xs : List Value) (i : Nat), lv_args i (xs.map (gt_v G)) = gt_lm G (lv_args i xs) := by
      intro xs
      induction xs with
      | nil => intro i; rfl
      | cons x xs ih =>
        intro i
        have hc : (gt_v G x).category = x.category := by cases x <;> rfl
        show lv_args i (gt_v G x :: xs.map (gt_v G)) = gt_lm G (lv_args i (x :: xs))
        simp only [lv_args, gt_lm, List.map_cons, hc]
        rw [ih]
        rfl
    exact key as 0
  rw [hl2] at hl
  exact body p e s m _ below meth c s.heap [] _ hX hR (fun q hq => by cases hq) hl
section GD
variable {l : Launch} {G : gt_G} {own nm : String} {cc : ByteArray} {mL : Nat} {rt : Option FieldType} {R : Room} {Z : gt_Zt} {n : Nat} {pc : Nat} {lv : List (Nat × Value)} {st : List Value} {w : gt_W}
theorem gd_iret {Post : Option Value → gt_W → Prop} {v : Int32} (hd : decode cc pc = .ok (.ireturn, 1)) (hp : Post (some (.int v)) w) : gt_A l G own nm cc mL (some .int) R (gt_ZD G n Post) (n, 0, 0) pc lv [.int v] (gt_enc w) :=
  fun p e s m args below meth c H locs ls X hR hL hl => W.iret (Qc := gt_QD G n Post) X.1 X.2.1 X.2.2.2.1 (fun t ht _ => ⟨some (.int v), w, rfl, hp, by rw [ht]; exact hR⟩) hL hd X.2.2.2.2.1
theorem gd_zret {Post : Option Value → gt_W → Prop} {v : Int32} (hd : decode cc pc = .ok (.ireturn, 1)) (hn : narrow .boolean (.int v) = .int v) (hp : Post (some (.int v)) w) : gt_A l G own nm cc mL (some .boolean) R (gt_ZD G n Post) (n, 0, 0) pc lv [.int v] (gt_enc w) :=
  fun p e s m args below meth c H locs ls X hR hL hl => W.zret (Qc := gt_QD G n Post) X.1 X.2.1 X.2.2.2.1 hn (fun t ht _ => ⟨some (.int v), w, rfl, hp, by rw [ht]; exact hR⟩) hL hd X.2.2.2.2.1
theorem gd_vret {Post : Option Value → gt_W → Prop} (hd : decode cc pc = .ok (.return_, 1)) (hp : Post none w) : gt_A l G own nm cc mL none R (gt_ZD G n Post) (n, 0, 0) pc lv [] (gt_enc w) :=
  fun p e s m args below meth c H locs ls X hR hL hl => W.vret (Qc := gt_QD G n Post) X.1 X.2.1 X.2.2.2.1 (fun t ht _ => ⟨none, w, rfl, hp, by rw [ht]; exact hR⟩) hL hd X.2.2.2.2.1
theorem gt_goesD {p : Program} {e : Env} {s : State} {m : MethodId} {args : Array Value} {below : List Frame} {meth : Method} {c : Code} {H : Heap} {locs : List Loc} {ls : Array Slot} {st0 rest : List Value} {a0 : Array Value} {uc us n1 : Nat} {Post : Option Value → gt_W → Prop} {Q : State → Prop}
    (hrun : va_Run p l e R s m args below meth c H locs uc us 0 0 (F0 m pc ls st0) rest (gt_QD G n1 Post a0) (fun q => gt_B G ≤ q)) (hL : ∀ q ∈ locs, gt_B G ≤ q.base)
    (kk : ∀ (r : Option Value) (w' : gt_W) (H1 : Heap) (locs1 : List Loc), Post r w' → gt_R G n1 (gt_enc w') H1 → (∀ q ∈ locs1, gt_B G ≤ q.base) → W p l e R s m args below meth c H1 locs1 uc us Q (F0 m (pc + 3) ls ((r.map (gt_v G)).toList ++ rest))) : W p l e R s m args below meth c H locs uc us Q (F0 m pc ls st0) := by
  intro T hT X
  obtain ⟨v, st₀, t, T', L, h0, X', hL1, e1, e2, ⟨r, w', hv, hp, hR1⟩, stp⟩ := hrun T hT X
  cases hv
  obtain ⟨t2, a1, b1⟩ := kk r w' T'.heap (locs ++ L) hp (by rw [e1]; exact hR1) (fun q hq => by
    rcases List.mem_append.mp hq with hq | hq
    · exact hL q hq
    · exact hL1 q hq) T' rfl X'
  exact ⟨t2, stp t2 a1, b1⟩
theorem gd_callV (As : List Value) {idx b ci d' mL' uc us : Nat} {y : MethodName} {cc' : ByteArray} {rt' : Option FieldType} {fs : List Value} {q : vw_C} {Post : Option Value → gt_W → Prop} (hl1 : Cond.methodLink own idx y ∈ gt_tbl) (hV : gt_V y cc' mL' rt' As.length) (hC : gt_D l G y cc' mL' rt' d' n (.ref b :: As) w Post) (ho : gt_enc w b = some (oO ci fs)) (hq : vwCl[ci]? = some q) (hqn : q.1 = y.cls) (hroom : gt_rc R d' uc us 0 0) (hs : (st.map fun v => v.category).sum ≤ 8) (hd : decode cc pc = .ok (.invokevirtual idx, 3))
    (kk : ∀ (r : Option Value) (w' : gt_W), Post r w' → gt_A l G own nm cc mL rt R Z (n, uc, us) (pc + 3) lv (r.toList ++ st) (gt_enc w')) : gt_A l G own nm cc mL rt R Z (n, uc, us) pc lv (As.reverse ++ .ref b :: st) (gt_enc w) :=
  fun p e s m args below meth c H locs ls X hR hL hl => by
    obtain ⟨v1, v2, v3, v4, v5, v6⟩ := hV
    have hts := X.2.2.2.2.2.2.2.1
    have hK := X.2.2.2.2.2.2.2.2
    have cw : CallW R s args own y.cls idx y cc' mL' rt' (.code y cc' mL' rt' :: gt_tbl) (gt_rm d' 0 0) 0 0 As.length :=
      ⟨callB_of As.length hts (gt_tbl_good v4) rfl rfl rfl (hts _ v3) (hts _ hl1) v5 ⟨hroom.1, by have := hroom.2.1; show 8 + (mL' + 11) + 40 * d' ≤ _; omega⟩, hts _ v1, hts _ v2⟩
    have hrec := va_recv hK.1 (gt_R_P hR ho) hq (q0 := 0) (a := gt_ad G b) (fs := fs.map (gt_v G)) rfl
    rw [hqn] at hrec
    have hrun := va_runV (g := F0 m pc ls (((As.map (gt_v G)).reverse) ++ .ref (gt_ad G b) :: st.map (gt_v G))) (locs := locs) (below := below) (meth := meth) (e := e) (H := H) ⟨X.1, X.2.1, X.2.2.1, X.2.2.2.2.2.1, hts⟩ hC cw (b := gt_ad G b) (As := As.map (gt_v G)) ⟨gt_P_blind G n _ (gt_enc w), hrec, gt_pre (y := y) (as := .ref b :: As) hR hK⟩ rfl (by rw [List.length_map]) hl.1 (rest := st.map (gt_v G)) rfl (gt_roomF hs) hd ⟨hroom.2.2.1, hroom.2.2.2⟩
    have e1 : (As.reverse ++ .ref b :: st).map (gt_v G) = ((As.map (gt_v G)).reverse) ++ .ref (gt_ad G b) :: st.map (gt_v G) := by rw [List.map_append, List.map_reverse]; rfl
    rw [e1]
    refine gt_goesD hrun hL (fun r w' H1 locs1 hp hR1 hL1 => ?_)
    rw [gt_map_toList]
    exact kk r w' hp p e s m args below meth c H1 locs1 ls X hR1 hL1 hl
theorem gd_callS (As : List Value) {idx d' mL' uc us : Nat} {y : MethodName} {cc' : ByteArray} {rt' : Option FieldType} {Post : Option Value → gt_W → Prop} (hl1 : Cond.methodLink own idx y ∈ gt_tbl) (hV : gt_S y cc' mL' rt' As.length) (hC : gt_D l G y cc' mL' rt' d' n As w Post) (hroom : gt_rc R d' uc us 0 0) (hs : (st.map fun v => v.category).sum ≤ 8) (hd : decode cc pc = .ok (.invokestatic idx, 3))
    (kk : ∀ (r : Option Value) (w' : gt_W), Post r w' → gt_A l G own nm cc mL rt R Z (n, uc, us) (pc + 3) lv (r.toList ++ st) (gt_enc w')) : gt_A l G own nm cc mL rt R Z (n, uc, us) pc lv (As.reverse ++ st) (gt_enc w) :=
  fun p e s m args below meth c H locs ls X hR hL hl => by
    obtain ⟨v1, v3, v4, v5, v6⟩ := hV
    have hts := X.2.2.2.2.2.2.2.1
    have hK := X.2.2.2.2.2.2.2.2
    have cw : CallB R s args own idx y cc' mL' rt' (.code y cc' mL' rt' :: gt_tbl) (gt_rm d' 0 0) 0 0 As.length ∧ (Cond.static y).before args s = true :=
      ⟨callB_of As.length hts (gt_tbl_good v4) rfl rfl rfl (hts _ v3) (hts _ hl1) v5 ⟨hroom.1, by have := hroom.2.1; show 8 + (mL' + 11) + 40 * d' ≤ _; omega⟩, hts _ v1⟩
    have hrun := va_runS (g := F0 m pc ls (((As.map (gt_v G)).reverse) ++ st.map (gt_v G))) (locs := locs) (below := below) (meth := meth) (e := e) (H := H) ⟨X.1, X.2.1, X.2.2.1, X.2.2.2.2.2.1, hts⟩ hC cw (As := As.map (gt_v G)) ⟨gt_P_blind G n _ (gt_enc w), gt_pre (y := y) (as := As) hR hK⟩ rfl (by rw [List.length_map]) hl.1 (rest := st.map (gt_v G)) rfl (gt_roomF hs) hd ⟨hroom.2.2.1, hroom.2.2.2⟩
    have e1 : (As.reverse ++ st).map (gt_v G) = ((As.map (gt_v G)).reverse) ++ st.map (gt_v G) := by rw [List.map_append, List.map_reverse]
    rw [e1]
    refine gt_goesD hrun hL (fun r w' H1 locs1 hp hR1 hL1 => ?_)
    rw [gt_map_toList]
    exact kk r w' hp p e s m args below meth c H1 locs1 ls X hR1 hL1 hl
theorem gd_V0 {idx b ci d' mL' uc us : Nat} {y : MethodName} {cc' : ByteArray} {rt' : Option FieldType} {fs : List Value} {q : vw_C} {Post : Option Value → gt_W → Prop} (hl1 : Cond.methodLink own idx y ∈ gt_tbl) (hV : gt_V y cc' mL' rt' 0) (hC : gt_D l G y cc' mL' rt' d' n (.ref b :: []) w Post) (ho : gt_enc w b = some (oO ci fs)) (hq : vwCl[ci]? = some q) (hqn : q.1 = y.cls) (hroom : gt_rc R d' uc us 0 0) (hs : (st.map fun v => v.category).sum ≤ 8) (hd : decode cc pc = .ok (.invokevirtual idx, 3)) (kk : ∀ (r : Option Value) (w' : gt_W), Post r w' → gt_A l G own nm cc mL rt R Z (n, uc, us) (pc + 3) lv (r.toList ++ st) (gt_enc w')) : gt_A l G own nm cc mL rt R Z (n, uc, us) pc lv (.ref b :: st) (gt_enc w) := gd_callV [] hl1 hV hC ho hq hqn hroom hs hd kk
theorem gd_S0 {idx d' mL' uc us : Nat} {y : MethodName} {cc' : ByteArray} {rt' : Option FieldType} {Post : Option Value → gt_W → Prop} (hl1 : Cond.methodLink own idx y ∈ gt_tbl) (hV : gt_S y cc' mL' rt' 0) (hC : gt_D l G y cc' mL' rt' d' n [] w Post) (hroom : gt_rc R d' uc us 0 0) (hs : (st.map fun v => v.category).sum ≤ 8) (hd : decode cc pc = .ok (.invokestatic idx, 3)) (kk : ∀ (r : Option Value) (w' : gt_W), Post r w' → gt_A l G own nm cc mL rt R Z (n, uc, us) (pc + 3) lv (r.toList ++ st) (gt_enc w')) : gt_A l G own nm cc mL rt R Z (n, uc, us) pc lv (st) (gt_enc w) := gd_callS [] hl1 hV hC hroom hs hd kk
theorem gd_V1 {a1 : Value} {idx b ci d' mL' uc us : Nat} {y : MethodName} {cc' : ByteArray} {rt' : Option FieldType} {fs : List Value} {q : vw_C} {Post : Option Value → gt_W → Prop} (hl1 : Cond.methodLink own idx y ∈ gt_tbl) (hV : gt_V y cc' mL' rt' 1) (hC : gt_D l G y cc' mL' rt' d' n (.ref b :: [a1]) w Post) (ho : gt_enc w b = some (oO ci fs)) (hq : vwCl[ci]? = some q) (hqn : q.1 = y.cls) (hroom : gt_rc R d' uc us 0 0) (hs : (st.map fun v => v.category).sum ≤ 8) (hd : decode cc pc = .ok (.invokevirtual idx, 3)) (kk : ∀ (r : Option Value) (w' : gt_W), Post r w' → gt_A l G own nm cc mL rt R Z (n, uc, us) (pc + 3) lv (r.toList ++ st) (gt_enc w')) : gt_A l G own nm cc mL rt R Z (n, uc, us) pc lv (a1 :: .ref b :: st) (gt_enc w) := gd_callV [a1] hl1 hV hC ho hq hqn hroom hs hd kk
theorem gd_S1 {a1 : Value} {idx d' mL' uc us : Nat} {y : MethodName} {cc' : ByteArray} {rt' : Option FieldType} {Post : Option Value → gt_W → Prop} (hl1 : Cond.methodLink own idx y ∈ gt_tbl) (hV : gt_S y cc' mL' rt' 1) (hC : gt_D l G y cc' mL' rt' d' n [a1] w Post) (hroom : gt_rc R d' uc us 0 0) (hs : (st.map fun v => v.category).sum ≤ 8) (hd : decode cc pc = .ok (.invokestatic idx, 3)) (kk : ∀ (r : Option Value) (w' : gt_W), Post r w' → gt_A l G own nm cc mL rt R Z (n, uc, us) (pc + 3) lv (r.toList ++ st) (gt_enc w')) : gt_A l G own nm cc mL rt R Z (n, uc, us) pc lv (a1 :: st) (gt_enc w) := gd_callS [a1] hl1 hV hC hroom hs hd kk
theorem gd_V2 {a1 a2 : Value} {idx b ci d' mL' uc us : Nat} {y : MethodName} {cc' : ByteArray} {rt' : Option FieldType} {fs : List Value} {q : vw_C} {Post : Option Value → gt_W → Prop} (hl1 : Cond.methodLink own idx y ∈ gt_tbl) (hV : gt_V y cc' mL' rt' 2) (hC : gt_D l G y cc' mL' rt' d' n (.ref b :: [a1, a2]) w Post) (ho : gt_enc w b = some (oO ci fs)) (hq : vwCl[ci]? = some q) (hqn : q.1 = y.cls) (hroom : gt_rc R d' uc us 0 0) (hs : (st.map fun v => v.category).sum ≤ 8) (hd : decode cc pc = .ok (.invokevirtual idx, 3)) (kk : ∀ (r : Option Value) (w' : gt_W), Post r w' → gt_A l G own nm cc mL rt R Z (n, uc, us) (pc + 3) lv (r.toList ++ st) (gt_enc w')) : gt_A l G own nm cc mL rt R Z (n, uc, us) pc lv (a2 :: a1 :: .ref b :: st) (gt_enc w) := gd_callV [a1, a2] hl1 hV hC ho hq hqn hroom hs hd kk
theorem gd_S2 {a1 a2 : Value} {idx d' mL' uc us : Nat} {y : MethodName} {cc' : ByteArray} {rt' : Option FieldType} {Post : Option Value → gt_W → Prop} (hl1 : Cond.methodLink own idx y ∈ gt_tbl) (hV : gt_S y cc' mL' rt' 2) (hC : gt_D l G y cc' mL' rt' d' n [a1, a2] w Post) (hroom : gt_rc R d' uc us 0 0) (hs : (st.map fun v => v.category).sum ≤ 8) (hd : decode cc pc = .ok (.invokestatic idx, 3)) (kk : ∀ (r : Option Value) (w' : gt_W), Post r w' → gt_A l G own nm cc mL rt R Z (n, uc, us) (pc + 3) lv (r.toList ++ st) (gt_enc w')) : gt_A l G own nm cc mL rt R Z (n, uc, us) pc lv (a2 :: a1 :: st) (gt_enc w) := gd_callS [a1, a2] hl1 hV hC hroom hs hd kk
theorem gd_V3 {a1 a2 a3 : Value} {idx b ci d' mL' uc us : Nat} {y : MethodName} {cc' : ByteArray} {rt' : Option FieldType} {fs : List Value} {q : vw_C} {Post : Option Value → gt_W → Prop} (hl1 : Cond.methodLink own idx y ∈ gt_tbl) (hV : gt_V y cc' mL' rt' 3) (hC : gt_D l G y cc' mL' rt' d' n (.ref b :: [a1, a2, a3]) w Post) (ho : gt_enc w b = some (oO ci fs)) (hq : vwCl[ci]? = some q) (hqn : q.1 = y.cls) (hroom : gt_rc R d' uc us 0 0) (hs : (st.map fun v => v.category).sum ≤ 8) (hd : decode cc pc = .ok (.invokevirtual idx, 3)) (kk : ∀ (r : Option Value) (w' : gt_W), Post r w' → gt_A l G own nm cc mL rt R Z (n, uc, us) (pc + 3) lv (r.toList ++ st) (gt_enc w')) : gt_A l G own nm cc mL rt R Z (n, uc, us) pc lv (a3 :: a2 :: a1 :: .ref b :: st) (gt_enc w) := gd_callV [a1, a2, a3] hl1 hV hC ho hq hqn hroom hs hd kk
theorem gd_S3 {a1 a2 a3 : Value} {idx d' mL' uc us : Nat} {y : MethodName} {cc' : ByteArray} {rt' : Option FieldType} {Post : Option Value → gt_W → Prop} (hl1 : Cond.methodLink own idx y ∈ gt_tbl) (hV : gt_S y cc' mL' rt' 3) (hC : gt_D l G y cc' mL' rt' d' n [a1, a2, a3] w Post) (hroom : gt_rc R d' uc us 0 0) (hs : (st.map fun v => v.category).sum ≤ 8) (hd : decode cc pc = .ok (.invokestatic idx, 3)) (kk : ∀ (r : Option Value) (w' : gt_W), Post r w' → gt_A l G own nm cc mL rt R Z (n, uc, us) (pc + 3) lv (r.toList ++ st) (gt_enc w')) : gt_A l G own nm cc mL rt R Z (n, uc, us) pc lv (a3 :: a2 :: a1 :: st) (gt_enc w) := gd_callS [a1, a2, a3] hl1 hV hC hroom hs hd kk
theorem gd_V4 {a1 a2 a3 a4 : Value} {idx b ci d' mL' uc us : Nat} {y : MethodName} {cc' : ByteArray} {rt' : Option FieldType} {fs : List Value} {q : vw_C} {Post : Option Value → gt_W → Prop} (hl1 : Cond.methodLink own idx y ∈ gt_tbl) (hV : gt_V y cc' mL' rt' 4) (hC : gt_D l G y cc' mL' rt' d' n (.ref b :: [a1, a2, a3, a4]) w Post) (ho : gt_enc w b = some (oO ci fs)) (hq : vwCl[ci]? = some q) (hqn : q.1 = y.cls) (hroom : gt_rc R d' uc us 0 0) (hs : (st.map fun v => v.category).sum ≤ 8) (hd : decode cc pc = .ok (.invokevirtual idx, 3)) (kk : ∀ (r : Option Value) (w' : gt_W), Post r w' → gt_A l G own nm cc mL rt R Z (n, uc, us) (pc + 3) lv (r.toList ++ st) (gt_enc w')) : gt_A l G own nm cc mL rt R Z (n, uc, us) pc lv (a4 :: a3 :: a2 :: a1 :: .ref b :: st) (gt_enc w) := gd_callV [a1, a2, a3, a4] hl1 hV hC ho hq hqn hroom hs hd kk
theorem gd_S4 {a1 a2 a3 a4 : Value} {idx d' mL' uc us : Nat} {y : MethodName} {cc' : ByteArray} {rt' : Option FieldType} {Post : Option Value → gt_W → Prop} (hl1 : Cond.methodLink own idx y ∈ gt_tbl) (hV : gt_S y cc' mL' rt' 4) (hC : gt_D l G y cc' mL' rt' d' n [a1, a2, a3, a4] w Post) (hroom : gt_rc R d' uc us 0 0) (hs : (st.map fun v => v.category).sum ≤ 8) (hd : decode cc pc = .ok (.invokestatic idx, 3)) (kk : ∀ (r : Option Value) (w' : gt_W), Post r w' → gt_A l G own nm cc mL rt R Z (n, uc, us) (pc + 3) lv (r.toList ++ st) (gt_enc w')) : gt_A l G own nm cc mL rt R Z (n, uc, us) pc lv (a4 :: a3 :: a2 :: a1 :: st) (gt_enc w) := gd_callS [a1, a2, a3, a4] hl1 hV hC hroom hs hd kk
theorem gd_V5 {a1 a2 a3 a4 a5 : Value} {idx b ci d' mL' uc us : Nat} {y : MethodName} {cc' : ByteArray} {rt' : Option FieldType} {fs : List Value} {q : vw_C} {Post : Option Value → gt_W → Prop} (hl1 : Cond.methodLink own idx y ∈ gt_tbl) (hV : gt_V y cc' mL' rt' 5) (hC : gt_D l G y cc' mL' rt' d' n (.ref b :: [a1, a2, a3, a4, a5]) w Post) (ho : gt_enc w b = some (oO ci fs)) (hq : vwCl[ci]? = some q) (hqn : q.1 = y.cls) (hroom : gt_rc R d' uc us 0 0) (hs : (st.map fun v => v.category).sum ≤ 8) (hd : decode cc pc = .ok (.invokevirtual idx, 3)) (kk : ∀ (r : Option Value) (w' : gt_W), Post r w' → gt_A l G own nm cc mL rt R Z (n, uc, us) (pc + 3) lv (r.toList ++ st) (gt_enc w')) : gt_A l G own nm cc mL rt R Z (n, uc, us) pc lv (a5 :: a4 :: a3 :: a2 :: a1 :: .ref b :: st) (gt_enc w) := gd_callV [a1, a2, a3, a4, a5] hl1 hV hC ho hq hqn hroom hs hd kk
theorem gd_S5 {a1 a2 a3 a4 a5 : Value} {idx d' mL' uc us : Nat} {y : MethodName} {cc' : ByteArray} {rt' : Option FieldType} {Post : Option Value → gt_W → Prop} (hl1 : Cond.methodLink own idx y ∈ gt_tbl) (hV : gt_S y cc' mL' rt' 5) (hC : gt_D l G y cc' mL' rt' d' n [a1, a2, a3, a4, a5] w Post) (hroom : gt_rc R d' uc us 0 0) (hs : (st.map fun v => v.category).sum ≤ 8) (hd : decode cc pc = .ok (.invokestatic idx, 3)) (kk : ∀ (r : Option Value) (w' : gt_W), Post r w' → gt_A l G own nm cc mL rt R Z (n, uc, us) (pc + 3) lv (r.toList ++ st) (gt_enc w')) : gt_A l G own nm cc mL rt R Z (n, uc, us) pc lv (a5 :: a4 :: a3 :: a2 :: a1 :: st) (gt_enc w) := gd_callS [a1, a2, a3, a4, a5] hl1 hV hC hroom hs hd kk
theorem gd_V6 {a1 a2 a3 a4 a5 a6 : Value} {idx b ci d' mL' uc us : Nat} {y : MethodName} {cc' : ByteArray} {rt' : Option FieldType} {fs : List Value} {q : vw_C} {Post : Option Value → gt_W → Prop} (hl1 : Cond.methodLink own idx y ∈ gt_tbl) (hV : gt_V y cc' mL' rt' 6) (hC : gt_D l G y cc' mL' rt' d' n (.ref b :: [a1, a2, a3, a4, a5, a6]) w Post) (ho : gt_enc w b = some (oO ci fs)) (hq : vwCl[ci]? = some q) (hqn : q.1 = y.cls) (hroom : gt_rc R d' uc us 0 0) (hs : (st.map fun v => v.category).sum ≤ 8) (hd : decode cc pc = .ok (.invokevirtual idx, 3)) (kk : ∀ (r : Option Value) (w' : gt_W), Post r w' → gt_A l G own nm cc mL rt R Z (n, uc, us) (pc + 3) lv (r.toList ++ st) (gt_enc w')) : gt_A l G own nm cc mL rt R Z (n, uc, us) pc lv (a6 :: a5 :: a4 :: a3 :: a2 :: a1 :: .ref b :: st) (gt_enc w) := gd_callV [a1, a2, a3, a4, a5, a6] hl1 hV hC ho hq hqn hroom hs hd kk
theorem gd_S6 {a1 a2 a3 a4 a5 a6 : Value} {idx d' mL' uc us : Nat} {y : MethodName} {cc' : ByteArray} {rt' : Option FieldType} {Post : Option Value → gt_W → Prop} (hl1 : Cond.methodLink own idx y ∈ gt_tbl) (hV : gt_S y cc' mL' rt' 6) (hC : gt_D l G y cc' mL' rt' d' n [a1, a2, a3, a4, a5, a6] w Post) (hroom : gt_rc R d' uc us 0 0) (hs : (st.map fun v => v.category).sum ≤ 8) (hd : decode cc pc = .ok (.invokestatic idx, 3)) (kk : ∀ (r : Option Value) (w' : gt_W), Post r w' → gt_A l G own nm cc mL rt R Z (n, uc, us) (pc + 3) lv (r.toList ++ st) (gt_enc w')) : gt_A l G own nm cc mL rt R Z (n, uc, us) pc lv (a6 :: a5 :: a4 :: a3 :: a2 :: a1 :: st) (gt_enc w) := gd_callS [a1, a2, a3, a4, a5, a6] hl1 hV hC hroom hs hd kk
theorem gd_S7 {a1 a2 a3 a4 a5 a6 a7 : Value} {idx d' mL' uc us : Nat} {y : MethodName} {cc' : ByteArray} {rt' : Option FieldType} {Post : Option Value → gt_W → Prop} (hl1 : Cond.methodLink own idx y ∈ gt_tbl) (hV : gt_S y cc' mL' rt' 7) (hC : gt_D l G y cc' mL' rt' d' n [a1, a2, a3, a4, a5, a6, a7] w Post) (hroom : gt_rc R d' uc us 0 0) (hs : (st.map fun v => v.category).sum ≤ 8) (hd : decode cc pc = .ok (.invokestatic idx, 3)) (kk : ∀ (r : Option Value) (w' : gt_W), Post r w' → gt_A l G own nm cc mL rt R Z (n, uc, us) (pc + 3) lv (r.toList ++ st) (gt_enc w')) : gt_A l G own nm cc mL rt R Z (n, uc, us) pc lv (a7 :: a6 :: a5 :: a4 :: a3 :: a2 :: a1 :: st) (gt_enc w) := gd_callS [a1, a2, a3, a4, a5, a6, a7] hl1 hV hC hroom hs hd kk
end GD
