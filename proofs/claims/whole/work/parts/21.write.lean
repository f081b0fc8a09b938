/-- the memory outside a block -/
def gx_Fr (w w' : gt_W) (lo hi : Nat) : Prop := ∀ a, (a < lo ∨ hi ≤ a) → w' a = w a
theorem gx_Fr_rf {w : gt_W} {lo hi : Nat} : gx_Fr w w lo hi := fun _ _ => rfl
theorem gx_Fr_tr {w w1 w2 : gt_W} {lo hi : Nat} (h1 : gx_Fr w w1 lo hi) (h2 : gx_Fr w1 w2 lo hi) : gx_Fr w w2 lo hi := fun a h => (h2 a h).trans (h1 a h)
theorem gx_Fr_wr {w0 w : gt_W} {lo hi a : Nat} {f : Nat → Int32} (h : gx_Fr w0 w lo hi) (h1 : lo ≤ a) (h2 : a < hi) : gx_Fr w0 (gt_wr w a f) lo hi := fun k hk => by
  rw [gt_wr_ne w f (by omega)]; exact h k hk
theorem gt_isS_ge {s : Nat} (h : gt_isS s) : 20 ≤ s ∧ s ≤ 156 := by
  rcases h with rfl | rfl | rfl | rfl | ⟨j, hj, rfl⟩ <;> omega
theorem gt_isC_lt {c : Nat} (h : gt_isC c) : 4 ≤ c ∧ c + 8 ≤ 20 := by
  rcases h with rfl | rfl <;> omega
theorem gx_Co_eq {w w' : gt_W} {c : Nat} {K : gx_K} (hc : gt_isC c) (e : ∀ a, a < 20 → w' a = w a) (h : gx_Co w c K) : gx_Co w' c K := by
  have hl := gt_isC_lt hc
  unfold gx_Co at h ⊢
  rw [e c (by omega), e (c + 1) (by omega), e (c + 2) (by omega), e (c + 3) (by omega), e (c + 4) (by omega), e (c + 5) (by omega), e (c + 6) (by omega), e (c + 7) (by omega)]
  exact h
theorem gx_Co_fr {w w' : gt_W} {c s : Nat} {K : gx_K} (hc : gt_isC c) (hs : gt_isS s) (hF : gx_Fr w w' s (s + 5)) (h : gx_Co w c K) : gx_Co w' c K := gx_Co_eq hc (fun a ha => hF a (by have := gt_isS_ge hs; omega)) h
theorem gx_St_eq {w w' : gt_W} {s : Nat} {K V : gx_K} {m : Int32} (e : ∀ a, s ≤ a → a < s + 5 → w' a = w a) (h : gx_St w s K V m) : gx_St w' s K V m := by
  unfold gx_St at h ⊢
  rw [e s (by omega) (by omega), e (s + 1) (by omega) (by omega), e (s + 2) (by omega) (by omega), e (s + 3) (by omega) (by omega), e (s + 4) (by omega) (by omega)]
  exact h
/-- one number of a state -/
def gx_up (V : gx_K) (i j v : Nat) : gx_K := fun a b => if a = i ∧ b = j then v else V a b
theorem gx_up_eq (V : gx_K) (i j v : Nat) : gx_up V i j v i j = v := if_pos ⟨rfl, rfl⟩
theorem gx_up_row {V : gx_K} {i j v a b : Nat} (h : a ≠ i) : gx_up V i j v a b = V a b := if_neg (fun q => h q.1)
theorem gx_up_col {V : gx_K} {i j v a b : Nat} (h : b ≠ j) : gx_up V i j v a b = V a b := if_neg (fun q => h q.2)
theorem upd_eq (f : Nat → Int32) (k : Nat) (x : Int32) : upd f k x k = x := if_pos rfl
theorem upd_ne (f : Nat → Int32) {k j : Nat} (x : Int32) (h : j ≠ k) : upd f k x j = f j := if_neg h
theorem gx_St_1 {w : gt_W} {s j v : Nat} {K V : gx_K} {m : Int32} (h : gx_St w s K V m) : gx_St (gt_wr w (s + 1) (upd (w (s + 1)) j (nI v))) s K (gx_up V 1 j v) m := by
  obtain ⟨h0, hm, h1, h2, h3, h4⟩ := h
  refine ⟨?_, ?_, fun b hb => ?_, fun b hb => ?_, fun b hb => ?_, fun b hb => ?_⟩
  · rw [gt_wr_ne _ _ (by omega), gx_up_row (by decide)]; exact h0
  · rw [gt_wr_ne _ _ (by omega)]; exact hm
  · rw [gt_wr_eq]
    by_cases e : b = j
    · subst e; rw [upd_eq, gx_up_eq]
    · rw [upd_ne _ _ e, gx_up_col e]; exact h1 b hb
  · rw [gt_wr_ne _ _ (by omega), gx_up_row (by decide)]; exact h2 b hb
  · rw [gt_wr_ne _ _ (by omega), gx_up_row (by decide)]; exact h3 b hb
  · rw [gt_wr_ne _ _ (by omega), gx_up_row (by decide)]; exact h4 b hb
theorem gx_St_2 {w : gt_W} {s j v : Nat} {K V : gx_K} {m : Int32} (h : gx_St w s K V m) : gx_St (gt_wr w (s + 2) (upd (w (s + 2)) j (gx_seat v))) s K (gx_up V 2 j v) m := by
  obtain ⟨h0, hm, h1, h2, h3, h4⟩ := h
  refine ⟨?_, ?_, fun b hb => ?_, fun b hb => ?_, fun b hb => ?_, fun b hb => ?_⟩
  · rw [gt_wr_ne _ _ (by omega), gx_up_row (by decide)]; exact h0
  · rw [gt_wr_ne _ _ (by omega)]; exact hm
  · rw [gt_wr_ne _ _ (by omega), gx_up_row (by decide)]; exact h1 b hb
  · rw [gt_wr_eq]
    by_cases e : b = j
    · subst e; rw [upd_eq, gx_up_eq]
    · rw [upd_ne _ _ e, gx_up_col e]; exact h2 b hb
  · rw [gt_wr_ne _ _ (by omega), gx_up_row (by decide)]; exact h3 b hb
  · rw [gt_wr_ne _ _ (by omega), gx_up_row (by decide)]; exact h4 b hb
theorem gx_St_3 {w : gt_W} {s j v : Nat} {K V : gx_K} {m : Int32} (h : gx_St w s K V m) : gx_St (gt_wr w (s + 3) (upd (w (s + 3)) j (nI v))) s K (gx_up V 3 j v) m := by
  obtain ⟨h0, hm, h1, h2, h3, h4⟩ := h
  refine ⟨?_, ?_, fun b hb => ?_, fun b hb => ?_, fun b hb => ?_, fun b hb => ?_⟩
  · rw [gt_wr_ne _ _ (by omega), gx_up_row (by decide)]; exact h0
  · rw [gt_wr_ne _ _ (by omega)]; exact hm
  · rw [gt_wr_ne _ _ (by omega), gx_up_row (by decide)]; exact h1 b hb
  · rw [gt_wr_ne _ _ (by omega), gx_up_row (by decide)]; exact h2 b hb
  · rw [gt_wr_eq]
    by_cases e : b = j
    · subst e; rw [upd_eq, gx_up_eq]
    · rw [upd_ne _ _ e, gx_up_col e]; exact h3 b hb
  · rw [gt_wr_ne _ _ (by omega), gx_up_row (by decide)]; exact h4 b hb
theorem gx_St_4 {w : gt_W} {s j v : Nat} {K V : gx_K} {m : Int32} (h : gx_St w s K V m) : gx_St (gt_wr w (s + 4) (upd (w (s + 4)) j (nI v))) s K (gx_up V 4 j v) m := by
  obtain ⟨h0, hm, h1, h2, h3, h4⟩ := h
  refine ⟨?_, ?_, fun b hb => ?_, fun b hb => ?_, fun b hb => ?_, fun b hb => ?_⟩
  · rw [gt_wr_ne _ _ (by omega), gx_up_row (by decide)]; exact h0
  · rw [gt_wr_ne _ _ (by omega)]; exact hm
  · rw [gt_wr_ne _ _ (by omega), gx_up_row (by decide)]; exact h1 b hb
  · rw [gt_wr_ne _ _ (by omega), gx_up_row (by decide)]; exact h2 b hb
  · rw [gt_wr_ne _ _ (by omega), gx_up_row (by decide)]; exact h3 b hb
  · rw [gt_wr_eq]
    by_cases e : b = j
    · subst e; rw [upd_eq, gx_up_eq]
    · rw [upd_ne _ _ e, gx_up_col e]; exact h4 b hb
theorem gx_St_0 {w : gt_W} {s v : Nat} {K V : gx_K} {m : Int32} (h : gx_St w s K V m) : gx_St (gt_wr w s (upd (w s) 0 (nI v))) s K (gx_up V 0 0 v) m := by
  obtain ⟨h0, hm, h1, h2, h3, h4⟩ := h
  refine ⟨?_, ?_, fun b hb => ?_, fun b hb => ?_, fun b hb => ?_, fun b hb => ?_⟩
  · rw [gt_wr_eq, upd_eq, gx_up_eq]
  · rw [gt_wr_eq, upd_ne _ _ (by decide)]; exact hm
  · rw [gt_wr_ne _ _ (by omega), gx_up_row (by decide)]; exact h1 b hb
  · rw [gt_wr_ne _ _ (by omega), gx_up_row (by decide)]; exact h2 b hb
  · rw [gt_wr_ne _ _ (by omega), gx_up_row (by decide)]; exact h3 b hb
  · rw [gt_wr_ne _ _ (by omega), gx_up_row (by decide)]; exact h4 b hb
theorem gx_St_m {w : gt_W} {s : Nat} {K V : gx_K} {m m' : Int32} (h : gx_St w s K V m) : gx_St (gt_wr w s (upd (w s) 1 m')) s K V m' := by
  obtain ⟨h0, hm, h1, h2, h3, h4⟩ := h
  refine ⟨?_, ?_, fun b hb => ?_, fun b hb => ?_, fun b hb => ?_, fun b hb => ?_⟩
  · rw [gt_wr_eq, upd_ne _ _ (by decide)]; exact h0
  · rw [gt_wr_eq, upd_eq]
  · rw [gt_wr_ne _ _ (by omega)]; exact h1 b hb
  · rw [gt_wr_ne _ _ (by omega)]; exact h2 b hb
  · rw [gt_wr_ne _ _ (by omega)]; exact h3 b hb
  · rw [gt_wr_ne _ _ (by omega)]; exact h4 b hb
section GS
variable {l : Launch} {G : gt_G} {own nm : String} {cc : ByteArray} {mL : Nat} {rt : Option FieldType} {R : Room} {Z : gt_Zt} {N : Nat × Nat × Nat} {pc : Nat} {lv : List (Nat × Value)} {st : List Value} {w w0 : gt_W} {s c t v : Nat} {K V : gx_K} {m : Int32}
theorem gw_S1 (hc : gt_isC c) (hK : gx_Co w c K) (kw : gx_KW K) (hs : gt_isS s) (hV : gx_St w s K V m) (hF : gx_Fr w0 w s (s + 5)) (ht : t < K 0 1) (hd : decode cc pc = .ok (.iastore, 1)) (kk : ∀ w' : gt_W, gx_Co w' c K → gx_St w' s K (gx_up V 1 t v) m → gx_Fr w0 w' s (s + 5) → gt_A l G own nm cc mL rt R Z N (pc + 1) lv st (gt_enc w')) : gt_A l G own nm cc mL rt R Z N pc lv (.int (nI v) :: .int (nI t) :: .ref (s + 1) :: st) (gt_enc w) := ge_iast (shS1 hs) (gt_ixn (Nat.lt_of_lt_of_le ht kw.2.1)) hd (kk _ (gx_Co_fr hc hs (gx_Fr_wr gx_Fr_rf (by omega) (by omega)) hK) (gx_St_1 hV) (gx_Fr_wr hF (by omega) (by omega)))
theorem gw_S2 (hc : gt_isC c) (hK : gx_Co w c K) (kw : gx_KW K) (hs : gt_isS s) (hV : gx_St w s K V m) (hF : gx_Fr w0 w s (s + 5)) (ht : t < K 0 2) (hd : decode cc pc = .ok (.iastore, 1)) (kk : ∀ w' : gt_W, gx_Co w' c K → gx_St w' s K (gx_up V 2 t v) m → gx_Fr w0 w' s (s + 5) → gt_A l G own nm cc mL rt R Z N (pc + 1) lv st (gt_enc w')) : gt_A l G own nm cc mL rt R Z N pc lv (.int (gx_seat v) :: .int (nI t) :: .ref (s + 2) :: st) (gt_enc w) := ge_iast (shS2 hs) (gt_ixn (Nat.lt_of_lt_of_le ht kw.2.2.1)) hd (kk _ (gx_Co_fr hc hs (gx_Fr_wr gx_Fr_rf (by omega) (by omega)) hK) (gx_St_2 hV) (gx_Fr_wr hF (by omega) (by omega)))
theorem gw_S3 (hc : gt_isC c) (hK : gx_Co w c K) (kw : gx_KW K) (hs : gt_isS s) (hV : gx_St w s K V m) (hF : gx_Fr w0 w s (s + 5)) (ht : t < K 0 2) (hd : decode cc pc = .ok (.iastore, 1)) (kk : ∀ w' : gt_W, gx_Co w' c K → gx_St w' s K (gx_up V 3 t v) m → gx_Fr w0 w' s (s + 5) → gt_A l G own nm cc mL rt R Z N (pc + 1) lv st (gt_enc w')) : gt_A l G own nm cc mL rt R Z N pc lv (.int (nI v) :: .int (nI t) :: .ref (s + 3) :: st) (gt_enc w) := ge_iast (shS3 hs) (gt_ixn (Nat.lt_of_lt_of_le ht kw.2.2.1)) hd (kk _ (gx_Co_fr hc hs (gx_Fr_wr gx_Fr_rf (by omega) (by omega)) hK) (gx_St_3 hV) (gx_Fr_wr hF (by omega) (by omega)))
theorem gw_S4 (hc : gt_isC c) (hK : gx_Co w c K) (kw : gx_KW K) (hs : gt_isS s) (hV : gx_St w s K V m) (hF : gx_Fr w0 w s (s + 5)) (ht : t < K 0 3) (hd : decode cc pc = .ok (.iastore, 1)) (kk : ∀ w' : gt_W, gx_Co w' c K → gx_St w' s K (gx_up V 4 t v) m → gx_Fr w0 w' s (s + 5) → gt_A l G own nm cc mL rt R Z N (pc + 1) lv st (gt_enc w')) : gt_A l G own nm cc mL rt R Z N pc lv (.int (nI v) :: .int (nI t) :: .ref (s + 4) :: st) (gt_enc w) := ge_iast (shS4 hs) (gt_ixn (Nat.lt_of_lt_of_le ht kw.2.2.2.1)) hd (kk _ (gx_Co_fr hc hs (gx_Fr_wr gx_Fr_rf (by omega) (by omega)) hK) (gx_St_4 hV) (gx_Fr_wr hF (by omega) (by omega)))
end GS
section GP
variable {l : Launch} {G : gt_G} {own nm : String} {cc : ByteArray} {mL : Nat} {rt : Option FieldType} {R : Room} {Z : gt_Zt} {N : Nat × Nat × Nat} {pc : Nat} {lv : List (Nat × Value)} {st : List Value} {w : gt_W}
theorem gp_int (j : Nat) {idx ci k a : Nat} {ty : FieldType} {fs : List Value} {x : Int32} (hF : gt_F own idx ci k ty false) (ho : gt_sh a (w a) = some (oO ci fs)) (ho' : gt_sh a (upd (w a) j x) = some (oO ci (fs.set k (.int x)))) (hn : narrow ty (.int x) = .int x) (hf : fits ty (.int x) = true) (hl0 : k < fs.length) (hd : decode cc pc = .ok (.putfield idx, 3)) (kk : gt_A l G own nm cc mL rt R Z N (pc + 3) lv st (gt_enc (gt_wr w a (upd (w a) j x)))) : gt_A l G own nm cc mL rt R Z N pc lv (.int x :: .ref a :: st) (gt_enc w) :=
  ge_put (v := .int x) j hF ho ho' hn hf hl0 hd kk
end GP
theorem gvv (y : Int32) {x : Int32} (h : x = y) : (some (Value.int x) : Option Value) = some (Value.int y) := by rw [h]
section GW
variable {l : Launch} {G : gt_G} {own nm : String} {cc : ByteArray} {mL : Nat} {rt : Option FieldType} {R : Room} {Z : gt_Zt} {N : Nat × Nat × Nat} {pc : Nat} {lv : List (Nat × Value)} {st : List Value} {w : gt_W}
theorem gw_iast {a n k : Nat} {i x : Int32} (ho : ∀ r, gt_sh a r = some (oI n r)) (hi : gt_ix i k n) (hd : decode cc pc = .ok (.iastore, 1)) (kk : ∀ w' : gt_W, (∀ b, b ≠ a → w' b = w b) → w' a = upd (w a) k x → gt_A l G own nm cc mL rt R Z N (pc + 1) lv st (gt_enc w')) : gt_A l G own nm cc mL rt R Z N pc lv (.int x :: .int i :: .ref a :: st) (gt_enc w) :=
  ge_iast ho hi hd (kk _ (fun b hb => gt_wr_ne _ _ hb) (gt_wr_eq _ _ _))
theorem gw_zast {a n k : Nat} {i x : Int32} (ho : ∀ r, gt_sh a r = some (oZ n r)) (hi : gt_ix i k n) (hx : narrow .boolean (.int x) = .int x) (hd : decode cc pc = .ok (.bastore, 1)) (kk : ∀ w' : gt_W, (∀ b, b ≠ a → w' b = w b) → w' a = upd (w a) k x → gt_A l G own nm cc mL rt R Z N (pc + 1) lv st (gt_enc w')) : gt_A l G own nm cc mL rt R Z N pc lv (.int x :: .int i :: .ref a :: st) (gt_enc w) :=
  ge_zast ho hi hx hd (kk _ (fun b hb => gt_wr_ne _ _ hb) (gt_wr_eq _ _ _))
theorem gw_put (j : Nat) {idx ci k a : Nat} {ty : FieldType} {fs : List Value} {x : Int32} (hF : gt_F own idx ci k ty false) (ho : gt_sh a (w a) = some (oO ci fs)) (ho' : gt_sh a (upd (w a) j x) = some (oO ci (fs.set k (.int x)))) (hn : narrow ty (.int x) = .int x) (hf : fits ty (.int x) = true) (hl0 : k < fs.length) (hd : decode cc pc = .ok (.putfield idx, 3)) (kk : ∀ w' : gt_W, (∀ b, b ≠ a → w' b = w b) → w' a = upd (w a) j x → gt_A l G own nm cc mL rt R Z N (pc + 3) lv st (gt_enc w')) : gt_A l G own nm cc mL rt R Z N pc lv (.int x :: .ref a :: st) (gt_enc w) :=
  ge_put (v := .int x) j hF ho ho' hn hf hl0 hd (kk _ (fun b hb => gt_wr_ne _ _ hb) (gt_wr_eq _ _ _))
end GW
