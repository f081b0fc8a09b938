/-! THE MEMORY: a row of ints for each object (its int fields, or its elements); what each object is: gt_sh -/
abbrev gt_W : Type := Nat → Nat → Int32
/-- the place within a state's five cells; 9: none -/
def gt_so (a : Nat) : Nat := if 20 ≤ a ∧ a < 30 then (a - 20) % 5 else if 32 ≤ a ∧ a < 112 then (a - 32) % 5 else if 150 ≤ a ∧ a < 155 then a - 150 else if 156 ≤ a ∧ a < 161 then a - 156 else 9
/-- the place within a coast's eight cells; 9: none -/
def gt_co (a : Nat) : Nat := if 4 ≤ a ∧ a < 20 then (a - 4) % 8 else 9
def gt_sh (a : Nat) (r : Nat → Int32) : Option gt_Ob :=
  if gt_so a = 0 then some (oO 8 [.int (r 0), .int (r 1), .ref (a + 1), .ref (a + 2), .ref (a + 3), .ref (a + 4)])
  else if gt_so a < 4 then some (oI 6 r)
  else if gt_so a = 4 then some (oI 4 r)
  else if gt_co a = 0 then some (oO 0 [.int (r 0), .int (r 1), .int (r 2), .int (r 3), .ref (a + 1), .ref (a + 2), .ref (a + 3), .ref (a + 4), .ref (a + 5), .ref (a + 6), .ref (a + 7)])
  else if gt_co a = 1 then some (oI 10 r)
  else if gt_co a < 5 then some (oI 6 r)
  else if gt_co a < 8 then some (oI 4 r)
  else if a = 1 then some (oO 9 [.ref 2, .ref (r 1).toNatClampNeg, .ref (r 2).toNatClampNeg, .ref 20, .ref 25, .ref 30, .ref 112, .ref 113, .ref 114, .ref 123, .ref 141, .int (r 11)])
  else if a = 2 then some (oO 6 [.ref 3, .int (r 1), .int (r 2), .int (r 3), .int (r 4)])
  else if a = 3 then some (oI 240 r)
  else if a = 30 then some (oO 4 [.ref 31, .int (r 1), .int (r 2)])
  else if a = 31 then some (oR 2 16 (fun i => if i < 16 then some (32 + 5 * i) else none))
  else if a = 112 then some (oR 3 2 (fun i => if i < 2 then some (149 + 6 * i) else none))
  else if a = 113 then some (oO 1 [.int (r 0)])
  else if a = 114 then some (oO 3 [.int (r 0), .int (r 1), .int (r 2), .ref 115, .ref 116, .ref 117, .ref 118, .ref 119, .ref 120, .ref 121, .ref 122])
  else if 115 ≤ a ∧ a < 121 then some (oI 6 r)
  else if 121 ≤ a ∧ a < 123 then some (oI 15 r)
  else if a = 123 then some (oO 5 [.ref 124, .ref 125, .ref 126, .ref 133, .int (r 4), .int (r 5)])
  else if 124 ≤ a ∧ a < 126 then some (oI 6 r)
  else if a = 126 then some (oR 4 6 (fun i => if i < 6 then some (127 + i) else none))
  else if 127 ≤ a ∧ a < 133 then some (oI 6 r)
  else if a = 133 then some (oR 4 7 (fun i => if i < 7 then some (134 + i) else none))
  else if 134 ≤ a ∧ a < 141 then some (oI 7 r)
  else if a = 141 then some (oO 7 [.ref 142])
  else if a = 142 then some (oR 4 6 (fun i => if i < 6 then some (143 + i) else none))
  else if 143 ≤ a ∧ a < 149 then some (oI 200 r)
  else if a = 149 then some (oO 2 [.ref 150, .int (r 1), .int (r 2)])
  else if a = 155 then some (oO 2 [.ref 156, .int (r 1), .int (r 2)])
  else if a = 161 then some (oO 10 [.ref 162, .ref 163, .ref 164, .ref 165, .ref 166, .int (r 5), .ref 167, .ref 168, .long (r 8).toInt64, .ref 169, .int (r 10), .int (r 11), .ref 170, .int (r 13), .ref 171, .int (r 15), .ref 172, .int (r 17), .int (r 18), .int (r 19), .int (r 20), .int (r 21), .int (r 22), .int (r 23), .ref 173, .ref 174, .int (r 26), .int (r 27), .ref 175])
  else if a = 162 then some (oI 44 r)
  else if a = 163 then some (oI 44 r)
  else if a = 164 then some (oI 24 r)
  else if a = 165 then some (oI 24 r)
  else if a = 166 then some (oI 384 r)
  else if a = 167 then some (oI 50 r)
  else if a = 168 then some (oZ 2 r)
  else if a = 169 then some (oI 240 r)
  else if a = 170 then some (oI 18 r)
  else if a = 171 then some (oI 18 r)
  else if a = 172 then some (oI 30 r)
  else if a = 173 then some (oI 6 r)
  else if a = 174 then some (oI 6 r)
  else if a = 175 then some (oI 1200 r)
  else none
def gt_enc (w : gt_W) : gt_H := fun a => gt_sh a (w a)
/-- another row -/
def gt_wr (w : gt_W) (a : Nat) (f : Nat → Int32) : gt_W := fun k => if k = a then f else w k
theorem gt_wr_eq (w : gt_W) (a : Nat) (f : Nat → Int32) : gt_wr w a f a = f := if_pos rfl
theorem gt_wr_ne (w : gt_W) {a k : Nat} (f : Nat → Int32) (h : k ≠ a) : gt_wr w a f k = w k := if_neg h
theorem gt_enc_up {w : gt_W} {a : Nat} {f : Nat → Int32} {o : gt_Ob} (h : gt_sh a f = some o) : gt_up (gt_enc w) a o = gt_enc (gt_wr w a f) := by
  funext k
  unfold gt_up gt_enc gt_wr
  by_cases hk : k = a
  · subst hk; simp only [if_pos]; exact h.symm
  · simp only [if_neg hk]
/-- an index and its number -/
def gt_ix (i : Int32) (k n : Nat) : Prop := vp_in i n ∧ i.toNatClampNeg = k
theorem gt_ixn {k n : Nat} (h : k < n) (hn : n < 2 ^ 31 := by decide) : gt_ix (nI k) k n := ⟨vp_in_nI h hn, nI_clamp (Nat.lt_trans h hn)⟩
theorem gt_ixe {i : Int32} {k n : Nat} (e : i = nI k) (h : k < n) (hn : n < 2 ^ 31 := by decide) : gt_ix i k n := by rw [e]; exact gt_ixn h hn
section GE
variable {l : Launch} {G : gt_G} {own nm : String} {cc : ByteArray} {mL : Nat} {rt : Option FieldType} {R : Room} {Z : gt_Zt} {N : Nat × Nat × Nat} {pc : Nat} {lv : List (Nat × Value)} {st : List Value} {w : gt_W}
theorem ge_put (j : Nat) {idx ci k a : Nat} {ty : FieldType} {fs : List Value} {v : Value} {x : Int32} (hF : gt_F own idx ci k ty false) (ho : gt_sh a (w a) = some (oO ci fs)) (ho' : gt_sh a (upd (w a) j x) = some (oO ci (fs.set k v))) (hn : narrow ty (gt_v G v) = gt_v G v) (hf : fits ty (gt_v G v) = true) (hl0 : k < fs.length) (hd : decode cc pc = .ok (.putfield idx, 3)) (kk : gt_A l G own nm cc mL rt R Z N (pc + 3) lv st (gt_enc (gt_wr w a (upd (w a) j x)))) : gt_A l G own nm cc mL rt R Z N pc lv (v :: .ref a :: st) (gt_enc w) :=
  ga_put hF ho hn hf hl0 hd (ga_heap (gt_enc_up ho') kk)
theorem ge_iald {a n k : Nat} {i : Int32} (ho : ∀ r, gt_sh a r = some (oI n r)) (hi : gt_ix i k n) (hd : decode cc pc = .ok (.iaload, 1)) (kk : gt_A l G own nm cc mL rt R Z N (pc + 1) lv (.int (w a k) :: st) (gt_enc w)) : gt_A l G own nm cc mL rt R Z N pc lv (.int i :: .ref a :: st) (gt_enc w) :=
  ga_iald (ho (w a)) hi.1 hd (by rw [hi.2]; exact kk)
theorem ge_zald {a n k : Nat} {i : Int32} (ho : ∀ r, gt_sh a r = some (oZ n r)) (hi : gt_ix i k n) (hd : decode cc pc = .ok (.baload, 1)) (kk : gt_A l G own nm cc mL rt R Z N (pc + 1) lv (.int (w a k) :: st) (gt_enc w)) : gt_A l G own nm cc mL rt R Z N pc lv (.int i :: .ref a :: st) (gt_enc w) :=
  ga_zald (ho (w a)) hi.1 hd (by rw [hi.2]; exact kk)
theorem ge_iast {a n k : Nat} {i x : Int32} (ho : ∀ r, gt_sh a r = some (oI n r)) (hi : gt_ix i k n) (hd : decode cc pc = .ok (.iastore, 1)) (kk : gt_A l G own nm cc mL rt R Z N (pc + 1) lv st (gt_enc (gt_wr w a (upd (w a) k x)))) : gt_A l G own nm cc mL rt R Z N pc lv (.int x :: .int i :: .ref a :: st) (gt_enc w) :=
  ga_iast (ho (w a)) hi.1 hd (by rw [hi.2]; exact ga_heap (gt_enc_up (ho _)) kk)
theorem ge_zast {a n k : Nat} {i x : Int32} (ho : ∀ r, gt_sh a r = some (oZ n r)) (hi : gt_ix i k n) (hx : narrow .boolean (.int x) = .int x) (hd : decode cc pc = .ok (.bastore, 1)) (kk : gt_A l G own nm cc mL rt R Z N (pc + 1) lv st (gt_enc (gt_wr w a (upd (w a) k x)))) : gt_A l G own nm cc mL rt R Z N pc lv (.int x :: .int i :: .ref a :: st) (gt_enc w) :=
  ga_zast (ho (w a)) hi.1 hx hd (by rw [hi.2]; exact ga_heap (gt_enc_up (ho _)) kk)
theorem ge_aald {a kd n k b : Nat} {ty : FieldType} {f : Nat → Option Nat} {i : Int32} (ho : ∀ r, gt_sh a r = some (oR kd n f)) (ht : (gt_tys G)[kd]? = some (G.2.1 kd, ty)) (hty : ty.isReference = true) (hi : gt_ix i k n) (hb : f k = some b) (hd : decode cc pc = .ok (.aaload, 1)) (kk : gt_A l G own nm cc mL rt R Z N (pc + 1) lv (.ref b :: st) (gt_enc w)) : gt_A l G own nm cc mL rt R Z N pc lv (.int i :: .ref a :: st) (gt_enc w) :=
  ga_aald (ho (w a)) ht hty hi.1 (by rw [hi.2]; exact hb) hd kk
end GE
theorem ge_copy {l : Launch} {G : gt_G} {own nm : String} {cc : ByteArray} {mL : Nat} {rt : Option FieldType} {R : Room} {Z : gt_Zt} {n uc us pc : Nat} {lv : List (Nat × Value)} {st : List Value} {w : gt_W} {idx a0 a n0 n1 k0 k1 m : Nat} {sp dp k : Int32} (hl1 : Cond.methodLink own idx arraycopyName ∈ gt_tbl) (ho0 : ∀ r, gt_sh a0 r = some (oI n0 r)) (ho1 : ∀ r, gt_sh a r = some (oI n1 r)) (h3 : sp = nI k0) (h4 : dp = nI k1) (h5 : k = nI m) (h6 : k0 + m ≤ n0) (h7 : k1 + m ≤ n1) (hb : n0 < 1000000 ∧ n1 < 1000000) (hr : 1 ≤ R.frames ∧ 40 ≤ R.locals) (hs : (st.map fun v => v.category).sum ≤ 8) (hd : decode cc pc = .ok (.invokestatic idx, 3))
    (kk : gt_A l G own nm cc mL rt R Z (n, uc, us) (pc + 3) lv st (gt_enc (gt_wr w a (va_cpy (w a0) (w a) k0 k1 m)))) : gt_A l G own nm cc mL rt R Z (n, uc, us) pc lv (.int k :: .int dp :: .ref a :: .int sp :: .ref a0 :: st) (gt_enc w) := by
  subst h3; subst h4; subst h5
  have b0 : k0 < 2 ^ 31 := by omega
  have b1 : k1 < 2 ^ 31 := by omega
  have b2 : m < 2 ^ 31 := by omega
  refine ga_copy hl1 kcopy (ho0 (w a0)) (ho1 (w a)) (nI_pos b0) (nI_pos b1) (nI_pos b2) (by rw [nI_clamp b0, nI_clamp b2]; exact h6) (by rw [nI_clamp b1, nI_clamp b2]; exact h7) hr hs kcopy_w hd ?_
  rw [nI_clamp b0, nI_clamp b1, nI_clamp b2]
  exact ga_heap (gt_enc_up (ho1 _)) kk
/-- states and coasts: where they lie -/
def gt_isS (s : Nat) : Prop := s = 20 ∨ s = 25 ∨ s = 150 ∨ s = 156 ∨ ∃ j, j < 16 ∧ s = 32 + 5 * j
def gt_isC (c : Nat) : Prop := c = 4 ∨ c = 12
theorem gt_isS_so {s : Nat} (h : gt_isS s) : gt_so s = 0 ∧ gt_so (s + 1) = 1 ∧ gt_so (s + 2) = 2 ∧ gt_so (s + 3) = 3 ∧ gt_so (s + 4) = 4 := by
  rcases h with rfl | rfl | rfl | rfl | ⟨j, hj, rfl⟩
  · decide
  · decide
  · decide
  · decide
  · unfold gt_so
    refine ⟨?_, ?_, ?_, ?_, ?_⟩ <;> rw [if_neg (by omega), if_pos (by omega)] <;> omega
theorem shS {s : Nat} (h : gt_isS s) (r : Nat → Int32) : gt_sh s r = some (oO 8 [.int (r 0), .int (r 1), .ref (s + 1), .ref (s + 2), .ref (s + 3), .ref (s + 4)]) := by
  unfold gt_sh; rw [if_pos (gt_isS_so h).1]
theorem shS1 {s : Nat} (h : gt_isS s) (r : Nat → Int32) : gt_sh (s + 1) r = some (oI 6 r) := by
  unfold gt_sh; rw [(gt_isS_so h).2.1]; rfl
theorem shS2 {s : Nat} (h : gt_isS s) (r : Nat → Int32) : gt_sh (s + 2) r = some (oI 6 r) := by
  unfold gt_sh; rw [(gt_isS_so h).2.2.1]; rfl
theorem shS3 {s : Nat} (h : gt_isS s) (r : Nat → Int32) : gt_sh (s + 3) r = some (oI 6 r) := by
  unfold gt_sh; rw [(gt_isS_so h).2.2.2.1]; rfl
theorem shS4 {s : Nat} (h : gt_isS s) (r : Nat → Int32) : gt_sh (s + 4) r = some (oI 4 r) := by
  unfold gt_sh; rw [(gt_isS_so h).2.2.2.2]; rfl
theorem shC {c : Nat} (h : gt_isC c) (r : Nat → Int32) : gt_sh c r = some (oO 0 [.int (r 0), .int (r 1), .int (r 2), .int (r 3), .ref (c + 1), .ref (c + 2), .ref (c + 3), .ref (c + 4), .ref (c + 5), .ref (c + 6), .ref (c + 7)]) := by
  rcases h with rfl | rfl <;> rfl
theorem shC1 {c : Nat} (h : gt_isC c) (r : Nat → Int32) : gt_sh (c + 1) r = some (oI 10 r) := by rcases h with rfl | rfl <;> rfl
theorem shC2 {c : Nat} (h : gt_isC c) (r : Nat → Int32) : gt_sh (c + 2) r = some (oI 6 r) := by rcases h with rfl | rfl <;> rfl
theorem shC3 {c : Nat} (h : gt_isC c) (r : Nat → Int32) : gt_sh (c + 3) r = some (oI 6 r) := by rcases h with rfl | rfl <;> rfl
theorem shC4 {c : Nat} (h : gt_isC c) (r : Nat → Int32) : gt_sh (c + 4) r = some (oI 6 r) := by rcases h with rfl | rfl <;> rfl
theorem shC5 {c : Nat} (h : gt_isC c) (r : Nat → Int32) : gt_sh (c + 5) r = some (oI 4 r) := by rcases h with rfl | rfl <;> rfl
theorem shC6 {c : Nat} (h : gt_isC c) (r : Nat → Int32) : gt_sh (c + 6) r = some (oI 4 r) := by rcases h with rfl | rfl <;> rfl
theorem shC7 {c : Nat} (h : gt_isC c) (r : Nat → Int32) : gt_sh (c + 7) r = some (oI 4 r) := by rcases h with rfl | rfl <;> rfl
theorem sh1 (r : Nat → Int32) : gt_sh 1 r = some (oO 9 [.ref 2, .ref (r 1).toNatClampNeg, .ref (r 2).toNatClampNeg, .ref 20, .ref 25, .ref 30, .ref 112, .ref 113, .ref 114, .ref 123, .ref 141, .int (r 11)]) := rfl
theorem sh2 (r : Nat → Int32) : gt_sh 2 r = some (oO 6 [.ref 3, .int (r 1), .int (r 2), .int (r 3), .int (r 4)]) := rfl
theorem sh3 (r : Nat → Int32) : gt_sh 3 r = some (oI 240 r) := rfl
theorem sh30 (r : Nat → Int32) : gt_sh 30 r = some (oO 4 [.ref 31, .int (r 1), .int (r 2)]) := rfl
theorem sh31 (r : Nat → Int32) : gt_sh 31 r = some (oR 2 16 (fun i => if i < 16 then some (32 + 5 * i) else none)) := rfl
theorem sh112 (r : Nat → Int32) : gt_sh 112 r = some (oR 3 2 (fun i => if i < 2 then some (149 + 6 * i) else none)) := rfl
theorem sh113 (r : Nat → Int32) : gt_sh 113 r = some (oO 1 [.int (r 0)]) := rfl
theorem sh114 (r : Nat → Int32) : gt_sh 114 r = some (oO 3 [.int (r 0), .int (r 1), .int (r 2), .ref 115, .ref 116, .ref 117, .ref 118, .ref 119, .ref 120, .ref 121, .ref 122]) := rfl
theorem sh123 (r : Nat → Int32) : gt_sh 123 r = some (oO 5 [.ref 124, .ref 125, .ref 126, .ref 133, .int (r 4), .int (r 5)]) := rfl
theorem sh126 (r : Nat → Int32) : gt_sh 126 r = some (oR 4 6 (fun i => if i < 6 then some (127 + i) else none)) := rfl
theorem sh133 (r : Nat → Int32) : gt_sh 133 r = some (oR 4 7 (fun i => if i < 7 then some (134 + i) else none)) := rfl
theorem sh141 (r : Nat → Int32) : gt_sh 141 r = some (oO 7 [.ref 142]) := rfl
theorem sh142 (r : Nat → Int32) : gt_sh 142 r = some (oR 4 6 (fun i => if i < 6 then some (143 + i) else none)) := rfl
theorem sh161 (r : Nat → Int32) : gt_sh 161 r = some (oO 10 [.ref 162, .ref 163, .ref 164, .ref 165, .ref 166, .int (r 5), .ref 167, .ref 168, .long (r 8).toInt64, .ref 169, .int (r 10), .int (r 11), .ref 170, .int (r 13), .ref 171, .int (r 15), .ref 172, .int (r 17), .int (r 18), .int (r 19), .int (r 20), .int (r 21), .int (r 22), .int (r 23), .ref 173, .ref 174, .int (r 26), .int (r 27), .ref 175]) := rfl
theorem shRow {b n k : Nat} (hb : b = 127 ∧ n = 6 ∧ k < 6 ∨ b = 134 ∧ n = 7 ∧ k < 7 ∨ b = 143 ∧ n = 200 ∧ k < 6) (r : Nat → Int32) : gt_sh (b + k) r = some (oI n r) := by
  rcases hb with ⟨rfl, rfl, h⟩ | ⟨rfl, rfl, h⟩ | ⟨rfl, rfl, h⟩
  · rcases (show k = 0 ∨ k = 1 ∨ k = 2 ∨ k = 3 ∨ k = 4 ∨ k = 5 by omega) with rfl | rfl | rfl | rfl | rfl | rfl <;> rfl
  · rcases (show k = 0 ∨ k = 1 ∨ k = 2 ∨ k = 3 ∨ k = 4 ∨ k = 5 ∨ k = 6 by omega) with rfl | rfl | rfl | rfl | rfl | rfl | rfl <;> rfl
  · rcases (show k = 0 ∨ k = 1 ∨ k = 2 ∨ k = 3 ∨ k = 4 ∨ k = 5 by omega) with rfl | rfl | rfl | rfl | rfl | rfl <;> rfl
theorem shIm {i : Nat} (h : i < 2) (r : Nat → Int32) : gt_sh (149 + 6 * i) r = some (oO 2 [.ref (150 + 6 * i), .int (r 1), .int (r 2)]) := by
  rcases (show i = 0 ∨ i = 1 by omega) with rfl | rfl <;> rfl
theorem sh115 (r : Nat → Int32) : gt_sh 115 r = some (oI 6 r) := rfl
theorem sh116 (r : Nat → Int32) : gt_sh 116 r = some (oI 6 r) := rfl
theorem sh117 (r : Nat → Int32) : gt_sh 117 r = some (oI 6 r) := rfl
theorem sh118 (r : Nat → Int32) : gt_sh 118 r = some (oI 6 r) := rfl
theorem sh119 (r : Nat → Int32) : gt_sh 119 r = some (oI 6 r) := rfl
theorem sh120 (r : Nat → Int32) : gt_sh 120 r = some (oI 6 r) := rfl
theorem sh121 (r : Nat → Int32) : gt_sh 121 r = some (oI 15 r) := rfl
theorem sh122 (r : Nat → Int32) : gt_sh 122 r = some (oI 15 r) := rfl
theorem sh124 (r : Nat → Int32) : gt_sh 124 r = some (oI 6 r) := rfl
theorem sh125 (r : Nat → Int32) : gt_sh 125 r = some (oI 6 r) := rfl
theorem sh173 (r : Nat → Int32) : gt_sh 173 r = some (oI 6 r) := rfl
theorem sh174 (r : Nat → Int32) : gt_sh 174 r = some (oI 6 r) := rfl
theorem sh162 (r : Nat → Int32) : gt_sh 162 r = some (oI 44 r) := rfl
theorem sh163 (r : Nat → Int32) : gt_sh 163 r = some (oI 44 r) := rfl
theorem sh164 (r : Nat → Int32) : gt_sh 164 r = some (oI 24 r) := rfl
theorem sh165 (r : Nat → Int32) : gt_sh 165 r = some (oI 24 r) := rfl
theorem sh166 (r : Nat → Int32) : gt_sh 166 r = some (oI 384 r) := rfl
theorem sh167 (r : Nat → Int32) : gt_sh 167 r = some (oI 50 r) := rfl
theorem sh169 (r : Nat → Int32) : gt_sh 169 r = some (oI 240 r) := rfl
theorem sh170 (r : Nat → Int32) : gt_sh 170 r = some (oI 18 r) := rfl
theorem sh171 (r : Nat → Int32) : gt_sh 171 r = some (oI 18 r) := rfl
theorem sh172 (r : Nat → Int32) : gt_sh 172 r = some (oI 30 r) := rfl
theorem sh175 (r : Nat → Int32) : gt_sh 175 r = some (oI 1200 r) := rfl
theorem sh168 (r : Nat → Int32) : gt_sh 168 r = some (oZ 2 r) := rfl
