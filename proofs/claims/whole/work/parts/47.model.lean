/-! THE REFERENCE: what its rows hold -/
/-- the coast's row -/
def gx_mc (r : Nat → Int32) (K : gx_K) : Prop := (∀ i, i < 4 → r i = nI (K 0 i)) ∧ (∀ j, j < K 0 0 → r (4 + j) = nI (K 1 j)) ∧ (∀ j, j < K 0 1 → r (14 + j) = nI (K 2 j)) ∧ (∀ j, j < K 0 1 → r (20 + j) = nI (K 3 j)) ∧ (∀ j, j < K 0 2 → r (26 + j) = nI (K 4 j)) ∧ (∀ j, j < K 0 3 → r (32 + j) = nI (K 5 j)) ∧ (∀ j, j < K 0 3 → r (36 + j) = nI (K 6 j)) ∧ (∀ j, j < K 0 3 → r (40 + j) = nI (K 7 j))
/-- a state's row -/
def gx_ms (r : Nat → Int32) (K V : gx_K) (m : Int32) : Prop := r 23 = nI (V 0 0) ∧ r 18 = m ∧ (∀ j, j < K 0 1 → r (0 + j) = nI (V 1 j)) ∧ (∀ j, j < K 0 2 → r (12 + j) = gx_seat (V 2 j)) ∧ (∀ j, j < K 0 2 → r (6 + j) = nI (V 3 j)) ∧ (∀ j, j < K 0 3 → r (19 + j) = nI (V 4 j))
def gx_As (a : Nat) : Prop := a = 164 ∨ a = 165
theorem as164 : gx_As 164 := Or.inl rfl
theorem as165 : gx_As 165 := Or.inr rfl
theorem shA {a : Nat} (h : gx_As a) (r : Nat → Int32) : gt_sh a r = some (oI 24 r) := by
  rcases h with rfl | rfl <;> rfl
section GM
variable {l : Launch} {G : gt_G} {own nm : String} {cc : ByteArray} {mL : Nat} {rt : Option FieldType} {R : Room} {Z : gt_Zt} {N : Nat × Nat × Nat} {pc : Nat} {lv : List (Nat × Value)} {st : List Value} {w : gt_W} {K V : gx_K} {m : Int32} {a t v : Nat}
theorem gm_c0 (hM : gx_mc (w 162) K) (hd : decode cc pc = .ok (.iaload, 1)) (kk : gt_A l G own nm cc mL rt R Z N (pc + 1) lv (.int (nI (K 0 0)) :: st) (gt_enc w)) : gt_A l G own nm cc mL rt R Z N pc lv (.int (nI 0) :: .ref 162 :: st) (gt_enc w) := ge_ialdE sh162 (gt_ixn (by decide)) (hM.1 0 (by decide)) hd kk
theorem gm_c1 (hM : gx_mc (w 162) K) (hd : decode cc pc = .ok (.iaload, 1)) (kk : gt_A l G own nm cc mL rt R Z N (pc + 1) lv (.int (nI (K 0 1)) :: st) (gt_enc w)) : gt_A l G own nm cc mL rt R Z N pc lv (.int (nI 1) :: .ref 162 :: st) (gt_enc w) := ge_ialdE sh162 (gt_ixn (by decide)) (hM.1 1 (by decide)) hd kk
theorem gm_c2 (hM : gx_mc (w 162) K) (hd : decode cc pc = .ok (.iaload, 1)) (kk : gt_A l G own nm cc mL rt R Z N (pc + 1) lv (.int (nI (K 0 2)) :: st) (gt_enc w)) : gt_A l G own nm cc mL rt R Z N pc lv (.int (nI 2) :: .ref 162 :: st) (gt_enc w) := ge_ialdE sh162 (gt_ixn (by decide)) (hM.1 2 (by decide)) hd kk
theorem gm_c3 (hM : gx_mc (w 162) K) (hd : decode cc pc = .ok (.iaload, 1)) (kk : gt_A l G own nm cc mL rt R Z N (pc + 1) lv (.int (nI (K 0 3)) :: st) (gt_enc w)) : gt_A l G own nm cc mL rt R Z N pc lv (.int (nI 3) :: .ref 162 :: st) (gt_enc w) := ge_ialdE sh162 (gt_ixn (by decide)) (hM.1 3 (by decide)) hd kk
theorem gm_C1 (hM : gx_mc (w 162) K) (kw : gx_KW K) (ht : t < K 0 0) (hd : decode cc pc = .ok (.iaload, 1)) (kk : gt_A l G own nm cc mL rt R Z N (pc + 1) lv (.int (nI (K 1 t)) :: st) (gt_enc w)) : gt_A l G own nm cc mL rt R Z N pc lv (.int (nI 4 + nI t) :: .ref 162 :: st) (gt_enc w) := ge_ialdE sh162 (gt_ixe (nI_add 4 t) (by have := kw.1; omega)) (hM.2.1 t ht) hd kk
theorem gm_C2 (hM : gx_mc (w 162) K) (kw : gx_KW K) (ht : t < K 0 1) (hd : decode cc pc = .ok (.iaload, 1)) (kk : gt_A l G own nm cc mL rt R Z N (pc + 1) lv (.int (nI (K 2 t)) :: st) (gt_enc w)) : gt_A l G own nm cc mL rt R Z N pc lv (.int (nI 14 + nI t) :: .ref 162 :: st) (gt_enc w) := ge_ialdE sh162 (gt_ixe (nI_add 14 t) (by have := kw.2.1; omega)) (hM.2.2.1 t ht) hd kk
theorem gm_C3 (hM : gx_mc (w 162) K) (kw : gx_KW K) (ht : t < K 0 1) (hd : decode cc pc = .ok (.iaload, 1)) (kk : gt_A l G own nm cc mL rt R Z N (pc + 1) lv (.int (nI (K 3 t)) :: st) (gt_enc w)) : gt_A l G own nm cc mL rt R Z N pc lv (.int (nI 20 + nI t) :: .ref 162 :: st) (gt_enc w) := ge_ialdE sh162 (gt_ixe (nI_add 20 t) (by have := kw.2.1; omega)) (hM.2.2.2.1 t ht) hd kk
theorem gm_C4 (hM : gx_mc (w 162) K) (kw : gx_KW K) (ht : t < K 0 2) (hd : decode cc pc = .ok (.iaload, 1)) (kk : gt_A l G own nm cc mL rt R Z N (pc + 1) lv (.int (nI (K 4 t)) :: st) (gt_enc w)) : gt_A l G own nm cc mL rt R Z N pc lv (.int (nI 26 + nI t) :: .ref 162 :: st) (gt_enc w) := ge_ialdE sh162 (gt_ixe (nI_add 26 t) (by have := kw.2.2.1; omega)) (hM.2.2.2.2.1 t ht) hd kk
theorem gm_C5 (hM : gx_mc (w 162) K) (kw : gx_KW K) (ht : t < K 0 3) (hd : decode cc pc = .ok (.iaload, 1)) (kk : gt_A l G own nm cc mL rt R Z N (pc + 1) lv (.int (nI (K 5 t)) :: st) (gt_enc w)) : gt_A l G own nm cc mL rt R Z N pc lv (.int (nI 32 + nI t) :: .ref 162 :: st) (gt_enc w) := ge_ialdE sh162 (gt_ixe (nI_add 32 t) (by have := kw.2.2.2.1; omega)) (hM.2.2.2.2.2.1 t ht) hd kk
theorem gm_C6 (hM : gx_mc (w 162) K) (kw : gx_KW K) (ht : t < K 0 3) (hd : decode cc pc = .ok (.iaload, 1)) (kk : gt_A l G own nm cc mL rt R Z N (pc + 1) lv (.int (nI (K 6 t)) :: st) (gt_enc w)) : gt_A l G own nm cc mL rt R Z N pc lv (.int (nI 36 + nI t) :: .ref 162 :: st) (gt_enc w) := ge_ialdE sh162 (gt_ixe (nI_add 36 t) (by have := kw.2.2.2.1; omega)) (hM.2.2.2.2.2.2.1 t ht) hd kk
theorem gm_C7 (hM : gx_mc (w 162) K) (kw : gx_KW K) (ht : t < K 0 3) (hd : decode cc pc = .ok (.iaload, 1)) (kk : gt_A l G own nm cc mL rt R Z N (pc + 1) lv (.int (nI (K 7 t)) :: st) (gt_enc w)) : gt_A l G own nm cc mL rt R Z N pc lv (.int (nI 40 + nI t) :: .ref 162 :: st) (gt_enc w) := ge_ialdE sh162 (gt_ixe (nI_add 40 t) (by have := kw.2.2.2.1; omega)) (hM.2.2.2.2.2.2.2 t ht) hd kk
theorem gm_sm (sa : ∀ r, gt_sh a r = some (oI 24 r)) (hV : gx_ms (w a) K V m) (hd : decode cc pc = .ok (.iaload, 1)) (kk : gt_A l G own nm cc mL rt R Z N (pc + 1) lv (.int m :: st) (gt_enc w)) : gt_A l G own nm cc mL rt R Z N pc lv (.int (nI 18) :: .ref a :: st) (gt_enc w) := ge_ialdE sa (gt_ixn (by decide)) hV.2.1 hd kk
theorem gm_sh (sa : ∀ r, gt_sh a r = some (oI 24 r)) (hV : gx_ms (w a) K V m) (hd : decode cc pc = .ok (.iaload, 1)) (kk : gt_A l G own nm cc mL rt R Z N (pc + 1) lv (.int (nI (V 0 0)) :: st) (gt_enc w)) : gt_A l G own nm cc mL rt R Z N pc lv (.int (nI 23) :: .ref a :: st) (gt_enc w) := ge_ialdE sa (gt_ixn (by decide)) hV.1 hd kk
theorem gm_S1 (sa : ∀ r, gt_sh a r = some (oI 24 r)) (hV : gx_ms (w a) K V m) (kw : gx_KW K) (ht : t < K 0 1) (hd : decode cc pc = .ok (.iaload, 1)) (kk : gt_A l G own nm cc mL rt R Z N (pc + 1) lv (.int (nI (V 1 t)) :: st) (gt_enc w)) : gt_A l G own nm cc mL rt R Z N pc lv (.int (nI 0 + nI t) :: .ref a :: st) (gt_enc w) := ge_ialdE sa (gt_ixe (nI_add 0 t) (by have := kw.2.1; omega)) (hV.2.2.1 t ht) hd kk
theorem gm_S2 (sa : ∀ r, gt_sh a r = some (oI 24 r)) (hV : gx_ms (w a) K V m) (kw : gx_KW K) (ht : t < K 0 2) (hd : decode cc pc = .ok (.iaload, 1)) (kk : gt_A l G own nm cc mL rt R Z N (pc + 1) lv (.int (gx_seat (V 2 t)) :: st) (gt_enc w)) : gt_A l G own nm cc mL rt R Z N pc lv (.int (nI 12 + nI t) :: .ref a :: st) (gt_enc w) := ge_ialdE sa (gt_ixe (nI_add 12 t) (by have := kw.2.2.1; omega)) (hV.2.2.2.1 t ht) hd kk
theorem gm_S3 (sa : ∀ r, gt_sh a r = some (oI 24 r)) (hV : gx_ms (w a) K V m) (kw : gx_KW K) (ht : t < K 0 2) (hd : decode cc pc = .ok (.iaload, 1)) (kk : gt_A l G own nm cc mL rt R Z N (pc + 1) lv (.int (nI (V 3 t)) :: st) (gt_enc w)) : gt_A l G own nm cc mL rt R Z N pc lv (.int (nI 6 + nI t) :: .ref a :: st) (gt_enc w) := ge_ialdE sa (gt_ixe (nI_add 6 t) (by have := kw.2.2.1; omega)) (hV.2.2.2.2.1 t ht) hd kk
theorem gm_S4 (sa : ∀ r, gt_sh a r = some (oI 24 r)) (hV : gx_ms (w a) K V m) (kw : gx_KW K) (ht : t < K 0 3) (hd : decode cc pc = .ok (.iaload, 1)) (kk : gt_A l G own nm cc mL rt R Z N (pc + 1) lv (.int (nI (V 4 t)) :: st) (gt_enc w)) : gt_A l G own nm cc mL rt R Z N pc lv (.int (nI 19 + nI t) :: .ref a :: st) (gt_enc w) := ge_ialdE sa (gt_ixe (nI_add 19 t) (by have := kw.2.2.2.1; omega)) (hV.2.2.2.2.2 t ht) hd kk
end GM
theorem gx_ms_1 {r : Nat → Int32} {K V : gx_K} {m : Int32} {t v : Nat} (kw : gx_KW K) (ht : t < K 0 1) (h : gx_ms r K V m) : gx_ms (upd r (0 + t) (nI v)) K (gx_up V 1 t v) m := by
  obtain ⟨h0, hm, h1, h2, h3, h4⟩ := h
  have k1 := kw.2.1
  have k2 := kw.2.2.1
  have k3 := kw.2.2.2.1
  exact ⟨by rw [upd_ne _ _ (by omega), gx_up_row (by decide)]; exact h0, by rw [upd_ne _ _ (by omega)]; exact hm, fun b hb => by
    by_cases e : b = t
    · subst e; rw [upd_eq, gx_up_eq]
    · rw [upd_ne _ _ (by omega), gx_up_col e]; exact h1 b hb, fun b hb => by rw [upd_ne _ _ (by have := kw.2.1; have := kw.2.2.1; have := kw.2.2.2.1; omega), gx_up_row (by decide)]; exact h2 b hb, fun b hb => by rw [upd_ne _ _ (by have := kw.2.1; have := kw.2.2.1; have := kw.2.2.2.1; omega), gx_up_row (by decide)]; exact h3 b hb, fun b hb => by rw [upd_ne _ _ (by have := kw.2.1; have := kw.2.2.1; have := kw.2.2.2.1; omega), gx_up_row (by decide)]; exact h4 b hb⟩
theorem gx_ms_2 {r : Nat → Int32} {K V : gx_K} {m : Int32} {t v : Nat} (kw : gx_KW K) (ht : t < K 0 2) (h : gx_ms r K V m) : gx_ms (upd r (12 + t) (gx_seat v)) K (gx_up V 2 t v) m := by
  obtain ⟨h0, hm, h1, h2, h3, h4⟩ := h
  have k1 := kw.2.1
  have k2 := kw.2.2.1
  have k3 := kw.2.2.2.1
  exact ⟨by rw [upd_ne _ _ (by omega), gx_up_row (by decide)]; exact h0, by rw [upd_ne _ _ (by omega)]; exact hm, fun b hb => by rw [upd_ne _ _ (by have := kw.2.1; have := kw.2.2.1; have := kw.2.2.2.1; omega), gx_up_row (by decide)]; exact h1 b hb, fun b hb => by
    by_cases e : b = t
    · subst e; rw [upd_eq, gx_up_eq]
    · rw [upd_ne _ _ (by omega), gx_up_col e]; exact h2 b hb, fun b hb => by rw [upd_ne _ _ (by have := kw.2.1; have := kw.2.2.1; have := kw.2.2.2.1; omega), gx_up_row (by decide)]; exact h3 b hb, fun b hb => by rw [upd_ne _ _ (by have := kw.2.1; have := kw.2.2.1; have := kw.2.2.2.1; omega), gx_up_row (by decide)]; exact h4 b hb⟩
theorem gx_ms_3 {r : Nat → Int32} {K V : gx_K} {m : Int32} {t v : Nat} (kw : gx_KW K) (ht : t < K 0 2) (h : gx_ms r K V m) : gx_ms (upd r (6 + t) (nI v)) K (gx_up V 3 t v) m := by
  obtain ⟨h0, hm, h1, h2, h3, h4⟩ := h
  have k1 := kw.2.1
  have k2 := kw.2.2.1
  have k3 := kw.2.2.2.1
  exact ⟨by rw [upd_ne _ _ (by omega), gx_up_row (by decide)]; exact h0, by rw [upd_ne _ _ (by omega)]; exact hm, fun b hb => by rw [upd_ne _ _ (by have := kw.2.1; have := kw.2.2.1; have := kw.2.2.2.1; omega), gx_up_row (by decide)]; exact h1 b hb, fun b hb => by rw [upd_ne _ _ (by have := kw.2.1; have := kw.2.2.1; have := kw.2.2.2.1; omega), gx_up_row (by decide)]; exact h2 b hb, fun b hb => by
    by_cases e : b = t
    · subst e; rw [upd_eq, gx_up_eq]
    · rw [upd_ne _ _ (by omega), gx_up_col e]; exact h3 b hb, fun b hb => by rw [upd_ne _ _ (by have := kw.2.1; have := kw.2.2.1; have := kw.2.2.2.1; omega), gx_up_row (by decide)]; exact h4 b hb⟩
theorem gx_ms_4 {r : Nat → Int32} {K V : gx_K} {m : Int32} {t v : Nat} (kw : gx_KW K) (ht : t < K 0 3) (h : gx_ms r K V m) : gx_ms (upd r (19 + t) (nI v)) K (gx_up V 4 t v) m := by
  obtain ⟨h0, hm, h1, h2, h3, h4⟩ := h
  have k1 := kw.2.1
  have k2 := kw.2.2.1
  have k3 := kw.2.2.2.1
  exact ⟨by rw [upd_ne _ _ (by omega), gx_up_row (by decide)]; exact h0, by rw [upd_ne _ _ (by omega)]; exact hm, fun b hb => by rw [upd_ne _ _ (by have := kw.2.1; have := kw.2.2.1; have := kw.2.2.2.1; omega), gx_up_row (by decide)]; exact h1 b hb, fun b hb => by rw [upd_ne _ _ (by have := kw.2.1; have := kw.2.2.1; have := kw.2.2.2.1; omega), gx_up_row (by decide)]; exact h2 b hb, fun b hb => by rw [upd_ne _ _ (by have := kw.2.1; have := kw.2.2.1; have := kw.2.2.2.1; omega), gx_up_row (by decide)]; exact h3 b hb, fun b hb => by
    by_cases e : b = t
    · subst e; rw [upd_eq, gx_up_eq]
    · rw [upd_ne _ _ (by omega), gx_up_col e]; exact h4 b hb⟩
theorem gx_ms_0 {r : Nat → Int32} {K V : gx_K} {m : Int32} {v : Nat} (kw : gx_KW K) (h : gx_ms r K V m) : gx_ms (upd r 23 (nI v)) K (gx_up V 0 0 v) m := by
  obtain ⟨h0, hm, h1, h2, h3, h4⟩ := h
  have k1 := kw.2.1
  have k2 := kw.2.2.1
  have k3 := kw.2.2.2.1
  exact ⟨by rw [upd_eq, gx_up_eq], by rw [upd_ne _ _ (by decide)]; exact hm, fun b hb => by rw [upd_ne _ _ (by omega), gx_up_row (by decide)]; exact h1 b hb, fun b hb => by rw [upd_ne _ _ (by omega), gx_up_row (by decide)]; exact h2 b hb, fun b hb => by rw [upd_ne _ _ (by omega), gx_up_row (by decide)]; exact h3 b hb, fun b hb => by rw [upd_ne _ _ (by omega), gx_up_row (by decide)]; exact h4 b hb⟩
theorem gx_ms_m {r : Nat → Int32} {K V : gx_K} {m m' : Int32} (kw : gx_KW K) (h : gx_ms r K V m) : gx_ms (upd r 18 m') K V m' := by
  obtain ⟨h0, hm, h1, h2, h3, h4⟩ := h
  have k1 := kw.2.1
  have k2 := kw.2.2.1
  have k3 := kw.2.2.2.1
  exact ⟨by rw [upd_ne _ _ (by decide)]; exact h0, upd_eq _ _ _, fun b hb => by rw [upd_ne _ _ (by omega)]; exact h1 b hb, fun b hb => by rw [upd_ne _ _ (by omega)]; exact h2 b hb, fun b hb => by rw [upd_ne _ _ (by omega)]; exact h3 b hb, fun b hb => by rw [upd_ne _ _ (by omega)]; exact h4 b hb⟩
theorem gx_ms_eq {f g : Nat → Int32} {K V : gx_K} {m : Int32} (kw : gx_KW K) (e : ∀ i, i < 24 → f i = g i) (h : gx_ms g K V m) : gx_ms f K V m := by
  obtain ⟨h0, hm, h1, h2, h3, h4⟩ := h
  have k1 := kw.2.1
  have k2 := kw.2.2.1
  have k3 := kw.2.2.2.1
  exact ⟨(e 23 (by decide)).trans h0, (e 18 (by decide)).trans hm, fun b hb => (e _ (by omega)).trans (h1 b hb), fun b hb => (e _ (by omega)).trans (h2 b hb), fun b hb => (e _ (by omega)).trans (h3 b hb), fun b hb => (e _ (by omega)).trans (h4 b hb)⟩
section GMW
variable {l : Launch} {G : gt_G} {own nm : String} {cc : ByteArray} {mL : Nat} {rt : Option FieldType} {R : Room} {Z : gt_Zt} {N : Nat × Nat × Nat} {pc : Nat} {lv : List (Nat × Value)} {st : List Value} {w : gt_W} {K V : gx_K} {m : Int32} {a t v : Nat}
theorem gmw_S1 (sa : ∀ r, gt_sh a r = some (oI 24 r)) (hV : gx_ms (w a) K V m) (kw : gx_KW K) (ht : t < K 0 1) (hd : decode cc pc = .ok (.iastore, 1)) (kk : ∀ w' : gt_W, (∀ b, b ≠ a → w' b = w b) → gx_ms (w' a) K (gx_up V 1 t v) m → gt_A l G own nm cc mL rt R Z N (pc + 1) lv st (gt_enc w')) : gt_A l G own nm cc mL rt R Z N pc lv (.int (nI v) :: .int (nI 0 + nI t) :: .ref a :: st) (gt_enc w) := gw_iast sa (gt_ixe (nI_add 0 t) (by have := kw.2.1; omega)) hd (fun w' o e => kk w' o (by rw [e]; exact gx_ms_1 kw ht hV))
theorem gmw_S2 (sa : ∀ r, gt_sh a r = some (oI 24 r)) (hV : gx_ms (w a) K V m) (kw : gx_KW K) (ht : t < K 0 2) (hd : decode cc pc = .ok (.iastore, 1)) (kk : ∀ w' : gt_W, (∀ b, b ≠ a → w' b = w b) → gx_ms (w' a) K (gx_up V 2 t v) m → gt_A l G own nm cc mL rt R Z N (pc + 1) lv st (gt_enc w')) : gt_A l G own nm cc mL rt R Z N pc lv (.int (gx_seat v) :: .int (nI 12 + nI t) :: .ref a :: st) (gt_enc w) := gw_iast sa (gt_ixe (nI_add 12 t) (by have := kw.2.2.1; omega)) hd (fun w' o e => kk w' o (by rw [e]; exact gx_ms_2 kw ht hV))
theorem gmw_S3 (sa : ∀ r, gt_sh a r = some (oI 24 r)) (hV : gx_ms (w a) K V m) (kw : gx_KW K) (ht : t < K 0 2) (hd : decode cc pc = .ok (.iastore, 1)) (kk : ∀ w' : gt_W, (∀ b, b ≠ a → w' b = w b) → gx_ms (w' a) K (gx_up V 3 t v) m → gt_A l G own nm cc mL rt R Z N (pc + 1) lv st (gt_enc w')) : gt_A l G own nm cc mL rt R Z N pc lv (.int (nI v) :: .int (nI 6 + nI t) :: .ref a :: st) (gt_enc w) := gw_iast sa (gt_ixe (nI_add 6 t) (by have := kw.2.2.1; omega)) hd (fun w' o e => kk w' o (by rw [e]; exact gx_ms_3 kw ht hV))
theorem gmw_S4 (sa : ∀ r, gt_sh a r = some (oI 24 r)) (hV : gx_ms (w a) K V m) (kw : gx_KW K) (ht : t < K 0 3) (hd : decode cc pc = .ok (.iastore, 1)) (kk : ∀ w' : gt_W, (∀ b, b ≠ a → w' b = w b) → gx_ms (w' a) K (gx_up V 4 t v) m → gt_A l G own nm cc mL rt R Z N (pc + 1) lv st (gt_enc w')) : gt_A l G own nm cc mL rt R Z N pc lv (.int (nI v) :: .int (nI 19 + nI t) :: .ref a :: st) (gt_enc w) := gw_iast sa (gt_ixe (nI_add 19 t) (by have := kw.2.2.2.1; omega)) hd (fun w' o e => kk w' o (by rw [e]; exact gx_ms_4 kw ht hV))
theorem gmw_sm {m' : Int32} (sa : ∀ r, gt_sh a r = some (oI 24 r)) (hV : gx_ms (w a) K V m) (kw : gx_KW K) (hd : decode cc pc = .ok (.iastore, 1)) (kk : ∀ w' : gt_W, (∀ b, b ≠ a → w' b = w b) → gx_ms (w' a) K V m' → gt_A l G own nm cc mL rt R Z N (pc + 1) lv st (gt_enc w')) : gt_A l G own nm cc mL rt R Z N pc lv (.int m' :: .int (nI 18) :: .ref a :: st) (gt_enc w) := gw_iast sa (gt_ixn (by decide)) hd (fun w' o e => kk w' o (by rw [e]; exact gx_ms_m kw hV))
theorem gmw_sh (sa : ∀ r, gt_sh a r = some (oI 24 r)) (hV : gx_ms (w a) K V m) (kw : gx_KW K) (hd : decode cc pc = .ok (.iastore, 1)) (kk : ∀ w' : gt_W, (∀ b, b ≠ a → w' b = w b) → gx_ms (w' a) K (gx_up V 0 0 v) m → gt_A l G own nm cc mL rt R Z N (pc + 1) lv st (gt_enc w')) : gt_A l G own nm cc mL rt R Z N pc lv (.int (nI v) :: .int (nI 23) :: .ref a :: st) (gt_enc w) := gw_iast sa (gt_ixn (by decide)) hd (fun w' o e => kk w' o (by rw [e]; exact gx_ms_0 kw hV))
end GMW
theorem gx_wi_in {x : Int32} {n : Nat} (hn : n < 2 ^ 31) : gx_wi x (nI 0) (nI n - nI 1) = gx_in x (nI n) := by
  unfold gx_wi gx_in
  have e0 : nI 0 = 0 := nI_0
  rcases Nat.eq_zero_or_pos n with h | h
  · subst h
    rw [if_neg, if_neg]
    · rintro ⟨h1, h2⟩; exact absurd h2 (Int32.not_lt.mpr (by rw [e0]; exact h1))
    · rintro ⟨h1, h2⟩
      rw [e0] at h1
      exact absurd (Int32.le_trans h1 h2) (by decide)
  · obtain ⟨k, rfl⟩ : ∃ k, n = k + 1 := ⟨n - 1, by omega⟩
    rw [show nI (k + 1) - nI 1 = nI k from nI_pred k, e0]
    by_cases hx : 0 ≤ x
    · obtain ⟨j, hj, rfl⟩ := nI_of (Int32.not_lt.mpr hx)
      by_cases q : j ≤ k
      · rw [if_pos ⟨hx, nI_le q (by omega)⟩, if_pos ⟨hx, nI_lt (by omega) hn⟩]
      · rw [if_neg (fun z => q ((nI_leI hj (by omega)).mp z.2)), if_neg (fun z => q (by have := (nI_ltI hj hn).mp z.2; omega))]
    · rw [if_neg (fun z => hx z.1), if_neg (fun z => hx z.1)]
theorem gx_max0m {a b : Nat} (ha : a < 2 ^ 30) (hb : b < 2 ^ 30) : (if nI a - nI b < nI 0 then nI 0 else nI a - nI b) = nI (a - b) := gx_max0' ha hb
/-- the last: its number + 1 -/
def gx_lst (P : Nat → Prop) [DecidablePred P] : Nat → Nat
  | 0 => 0
  | k + 1 => if P k then k + 1 else gx_lst P k
theorem gx_lst_t {P : Nat → Prop} [DecidablePred P] {k : Nat} (h : P k) : gx_lst P (k + 1) = k + 1 := if_pos h
theorem gx_lst_f {P : Nat → Prop} [DecidablePred P] {k : Nat} (h : ¬ P k) : gx_lst P (k + 1) = gx_lst P k := if_neg h
theorem gx_first_at {P : Nat → Prop} [DecidablePred P] {i : Nat} (hi : P i) : ∀ k t, t ≤ i → i < t + k → (∀ j, t ≤ j → j < i → ¬ P j) → gx_first P t k = nI i
  | 0, t, h1, h2, _ => by omega
  | k + 1, t, h1, h2, h3 => by
    by_cases q : P t
    · rw [gx_first_t q]
      by_cases e : t = i
      · rw [e]
      · exact absurd q (h3 t (Nat.le_refl _) (by omega))
    · rw [gx_first_f q]
      by_cases e : t = i
      · exact absurd (e ▸ hi) q
      · exact gx_first_at hi k (t + 1) (by omega) (by omega) (fun j hj => h3 j (by omega))
theorem gx_first_no {P : Nat → Prop} [DecidablePred P] : ∀ k t, (∀ j, t ≤ j → j < t + k → ¬ P j) → gx_first P t k = -1
  | 0, _, _ => rfl
  | k + 1, t, h => by rw [gx_first_f (h t (Nat.le_refl _) (by omega))]; exact gx_first_no k (t + 1) (fun j h1 h2 => h j (by omega) (by omega))
theorem gx_lst_no {P : Nat → Prop} [DecidablePred P] : ∀ n, (∀ i, i < n → ¬ P i) → gx_lst P n = 0
  | 0, _ => rfl
  | n + 1, h => by rw [gx_lst_f (h n (by omega))]; exact gx_lst_no n (fun i hi => h i (by omega))
theorem gx_lst_at {P : Nat → Prop} [DecidablePred P] {i : Nat} (hp : P i) : ∀ n, i < n → (∀ j, j < n → P j → j = i) → gx_lst P n = i + 1
  | 0, h, _ => by omega
  | n + 1, h, hu => by
    by_cases q : P n
    · rw [gx_lst_t q, hu n (by omega) q]
    · rw [gx_lst_f q]
      by_cases e : n = i
      · exact absurd (e ▸ hp) q
      · exact gx_lst_at hp n (by omega) (fun j hj => hu j (by omega))
theorem gx_lst_first {P : Nat → Prop} [DecidablePred P] : ∀ n, (∀ i j, i < n → j < n → P i → P j → i = j) → gx_seat (gx_lst P n) = gx_first P 0 n
  | n, h => by
    by_cases q : ∃ i, i < n ∧ P i
    · obtain ⟨i, hi, hp⟩ := q
      have e : gx_lst P n = i + 1 := gx_lst_at hp n hi (fun j hj qj => h j i hj hi qj hp)
      rw [e, gx_seat_s, gx_first_at hp n 0 (Nat.zero_le _) (by omega) (fun j _ hj qj => by have := h j i (by omega) hi qj hp; omega)]
    · rw [gx_first_no n 0 (fun j _ hj qj => q ⟨j, by omega, qj⟩)]
      have e : gx_lst P n = 0 := gx_lst_no n (fun i hi qi => q ⟨i, hi, qi⟩)
      rw [e, gx_seat_0]
set_option maxRecDepth 100000 in
set_option maxHeartbeats 4000000 in
theorem c_X10_in {l : Launch} {G : gt_G} {n : Nat} {w : gt_W} {x a b : Int32} {x1 a1 b1 : Int64} (hx : x1 = x.toInt64) (ha : a1 = a.toInt64) (hb : b1 = b.toInt64) : gt_C l G yX10_in cX10_in 6 (some .boolean) 1 0 0 n [.long x1, .long a1, .long b1] (gt_enc w) (some (.int (gx_wi x a b))) (gt_enc (w)) := by
  refine gt_C_of (own := RX10) (nm := "in") rfl rfl (by decide +kernel) (Nat.le_of_ble_eq_true rfl) ?_
  show gt_A _ _ _ _ _ _ _ _ _ _ _ [(0, .long x1), (2, .long a1), (4, .long b1)] _ _
  refine ga_lload_n 0 dX10_in_0 rfl ?_
  refine ga_lload_n 1 dX10_in_1 rfl ?_
  refine ga_lcmp dX10_in_2 ?_
  refine ga_if_lt 17 dX10_in_3 (by decide) (fun c_3 => ?_) (fun c_3 => ?_)
  · have h1 : ¬ (a ≤ x ∧ x ≤ b) := fun q => by rw [hx, ha, lg_cmp_lt, Int32.toInt64_lt] at c_3; exact absurd c_3 (Int32.not_lt.mpr q.1)
    refine ga_iconst (nI 0) dX10_in_17 (by decide) ?_
    exact ga_zret dX10_in_18 (by decide) (gv (by first | exact if_pos h1 | exact if_neg h1)) rfl
  · have h0 : a ≤ x := by rw [hx, ha, lg_cmp_lt, Int32.toInt64_lt] at c_3; exact Int32.not_lt.mp c_3
    refine ga_lload_n 0 dX10_in_6 rfl ?_
    refine ga_lload 2 dX10_in_7 rfl ?_
    refine ga_lcmp dX10_in_9 ?_
    refine ga_if_gt 17 dX10_in_10 (by decide) (fun c_10 => ?_) (fun c_10 => ?_)
    · have h1 : ¬ (a ≤ x ∧ x ≤ b) := fun q => by rw [hx, hb, lg_cmp_gt, Int32.toInt64_lt] at c_10; exact absurd c_10 (Int32.not_lt.mpr q.2)
      refine ga_iconst (nI 0) dX10_in_17 (by decide) ?_
      exact ga_zret dX10_in_18 (by decide) (gv (by first | exact if_pos h1 | exact if_neg h1)) rfl
    · have h1 : a ≤ x ∧ x ≤ b := ⟨h0, by rw [hx, hb, lg_cmp_gt, Int32.toInt64_lt] at c_10; exact Int32.not_lt.mp c_10⟩
      refine ga_iconst (nI 1) dX10_in_13 (by decide) ?_
      refine ga_goto 18 dX10_in_14 (by decide) ?_
      exact ga_zret dX10_in_18 (by decide) (gv (by first | exact if_pos h1 | exact if_neg h1)) rfl
set_option maxRecDepth 100000 in
set_option maxHeartbeats 4000000 in
theorem c_X10_has {l : Launch} {G : gt_G} {n : Nat} {w : gt_W} {x : Int32} {k : Int32} : gt_C l G yX10_has cX10_has 2 (some .boolean) 1 0 0 n [.int x, .int k] (gt_enc w) (some (.int (gx_slpB x k))) (gt_enc (w)) := by
  refine gt_C_of (own := RX10) (nm := "has") rfl rfl (by decide +kernel) (Nat.le_of_ble_eq_true rfl) ?_
  show gt_A _ _ _ _ _ _ _ _ _ _ _ [(0, .int x), (1, .int k)] _ _
  refine ga_iload_n 0 dX10_has_0 rfl ?_
  refine ga_iload_n 1 dX10_has_1 rfl ?_
  refine ga_ishr dX10_has_2 ?_
  refine ga_iconst (nI 1) dX10_has_3 (by decide) ?_
  refine ga_iand dX10_has_4 ?_
  refine ga_iconst (nI 1) dX10_has_5 (by decide) ?_
  refine ga_icmp_ne 13 dX10_has_6 (by decide) (fun c_6 => ?_) (fun c_6 => ?_)
  · refine ga_iconst (nI 0) dX10_has_13 (by decide) ?_
    exact ga_zret dX10_has_14 (by decide) (gv (by first | exact if_pos c_6 | exact if_neg c_6)) rfl
  · refine ga_iconst (nI 1) dX10_has_9 (by decide) ?_
    refine ga_goto 14 dX10_has_10 (by decide) ?_
    exact ga_zret dX10_has_14 (by decide) (gv (by first | exact if_pos c_6 | exact if_neg c_6)) rfl
set_option maxRecDepth 100000 in
set_option maxHeartbeats 4000000 in
theorem c_X10_lesser {l : Launch} {G : gt_G} {n : Nat} {w : gt_W} {x y : Int32} : gt_C l G yX10_lesser cX10_lesser 2 (some .int) 1 0 0 n [.int x, .int y] (gt_enc w) (some (.int (if x < y then x else y))) (gt_enc (w)) := by
  refine gt_C_of (own := RX10) (nm := "lesser") rfl rfl (by decide +kernel) (Nat.le_of_ble_eq_true rfl) ?_
  show gt_A _ _ _ _ _ _ _ _ _ _ _ [(0, .int x), (1, .int y)] _ _
  refine ga_iload_n 0 dX10_lesser_0 rfl ?_
  refine ga_iload_n 1 dX10_lesser_1 rfl ?_
  refine ga_icmp_ge 9 dX10_lesser_2 (by decide) (fun c_2 => ?_) (fun c_2 => ?_)
  · refine ga_iload_n 1 dX10_lesser_9 rfl ?_
    exact ga_iret dX10_lesser_10 (gv (by first | exact if_pos (Int32.not_le.mp c_2) | exact if_neg (Int32.not_lt.mpr c_2))) rfl
  · refine ga_iload_n 0 dX10_lesser_5 rfl ?_
    refine ga_goto 10 dX10_lesser_6 (by decide) ?_
    exact ga_iret dX10_lesser_10 (gv (by first | exact if_pos (Int32.not_le.mp c_2) | exact if_neg (Int32.not_lt.mpr c_2))) rfl
set_option maxRecDepth 100000 in
set_option maxHeartbeats 4000000 in
theorem c_X10_greater {l : Launch} {G : gt_G} {n : Nat} {w : gt_W} {x y : Int32} : gt_C l G yX10_greater cX10_greater 2 (some .int) 1 0 0 n [.int x, .int y] (gt_enc w) (some (.int (if y < x then x else y))) (gt_enc (w)) := by
  refine gt_C_of (own := RX10) (nm := "greater") rfl rfl (by decide +kernel) (Nat.le_of_ble_eq_true rfl) ?_
  show gt_A _ _ _ _ _ _ _ _ _ _ _ [(0, .int x), (1, .int y)] _ _
  refine ga_iload_n 0 dX10_greater_0 rfl ?_
  refine ga_iload_n 1 dX10_greater_1 rfl ?_
  refine ga_icmp_le 9 dX10_greater_2 (by decide) (fun c_2 => ?_) (fun c_2 => ?_)
  · refine ga_iload_n 1 dX10_greater_9 rfl ?_
    exact ga_iret dX10_greater_10 (gv (by first | exact if_pos (Int32.not_le.mp c_2) | exact if_neg (Int32.not_lt.mpr c_2))) rfl
  · refine ga_iload_n 0 dX10_greater_5 rfl ?_
    refine ga_goto 10 dX10_greater_6 (by decide) ?_
    exact ga_iret dX10_greater_10 (gv (by first | exact if_pos (Int32.not_le.mp c_2) | exact if_neg (Int32.not_lt.mpr c_2))) rfl
set_option maxRecDepth 100000 in
set_option maxHeartbeats 4000000 in
theorem c_X10_isCell {l : Launch} {G : gt_G} {n : Nat} {w : gt_W} {K : gx_K} (hM : gx_mc (w 162) K) (kw : gx_KW K) (x : Int32) : gt_C l G yX10_isCell cX10_isCell 2 (some .boolean) 2 0 0 n [.ref 161, .int x] (gt_enc w) (some (.int (gx_in x (nI (K 0 0))))) (gt_enc (w)) := by
  refine gt_C_of (own := RX10) (nm := "isCell") rfl rfl (by decide +kernel) (Nat.le_of_ble_eq_true rfl) ?_
  show gt_A _ _ _ _ _ _ _ _ _ _ _ [(0, .ref 161), (1, .int x)] _ _
  refine ga_iload_n 1 dX10_isCell_0 rfl ?_
  refine ga_i2l dX10_isCell_1 ?_
  refine ga_lconst 0 dX10_isCell_2 (by decide) ?_
  refine ga_aload_n 0 dX10_isCell_3 rfl ?_
  refine ga_get kf_X10_7 (sh161 _) rfl dX10_isCell_4 ?_
  refine ga_iconst (nI 0) dX10_isCell_7 (by decide) ?_
  refine gm_c0 hM dX10_isCell_8 ?_
  refine ga_iconst (nI 1) dX10_isCell_9 (by decide) ?_
  refine ga_isub dX10_isCell_10 ?_
  refine ga_i2l dX10_isCell_11 ?_
  refine ga_S3 km_X10_64 kv_X10_in (c_X10_in (x := x) (a := nI 0) (b := nI (K 0 0) - nI 1) rfl (by decide) rfl) (gt_rc0 (by decide)) (Nat.le_of_ble_eq_true rfl) dX10_isCell_12 ?_
  exact ga_zret dX10_isCell_15 (by rw [gx_wi_in (by have := kw.1; omega)]; unfold gx_in; split <;> decide) (gv (gx_wi_in (by have := kw.1; omega)).symm) rfl
set_option maxRecDepth 100000 in
set_option maxHeartbeats 4000000 in
theorem c_X10_isTower {l : Launch} {G : gt_G} {n : Nat} {w : gt_W} {K : gx_K} (hM : gx_mc (w 162) K) (kw : gx_KW K) (x : Int32) : gt_C l G yX10_isTower cX10_isTower 2 (some .boolean) 2 0 0 n [.ref 161, .int x] (gt_enc w) (some (.int (gx_in x (nI (K 0 1))))) (gt_enc (w)) := by
  refine gt_C_of (own := RX10) (nm := "isTower") rfl rfl (by decide +kernel) (Nat.le_of_ble_eq_true rfl) ?_
  show gt_A _ _ _ _ _ _ _ _ _ _ _ [(0, .ref 161), (1, .int x)] _ _
  refine ga_iload_n 1 dX10_isTower_0 rfl ?_
  refine ga_i2l dX10_isTower_1 ?_
  refine ga_lconst 0 dX10_isTower_2 (by decide) ?_
  refine ga_aload_n 0 dX10_isTower_3 rfl ?_
  refine ga_get kf_X10_7 (sh161 _) rfl dX10_isTower_4 ?_
  refine ga_iconst (nI 1) dX10_isTower_7 (by decide) ?_
  refine gm_c1 hM dX10_isTower_8 ?_
  refine ga_iconst (nI 1) dX10_isTower_9 (by decide) ?_
  refine ga_isub dX10_isTower_10 ?_
  refine ga_i2l dX10_isTower_11 ?_
  refine ga_S3 km_X10_64 kv_X10_in (c_X10_in (x := x) (a := nI 0) (b := nI (K 0 1) - nI 1) rfl (by decide) rfl) (gt_rc0 (by decide)) (Nat.le_of_ble_eq_true rfl) dX10_isTower_12 ?_
  exact ga_zret dX10_isTower_15 (by rw [gx_wi_in (by have := kw.2.1; omega)]; unfold gx_in; split <;> decide) (gv (gx_wi_in (by have := kw.2.1; omega)).symm) rfl
set_option maxRecDepth 100000 in
set_option maxHeartbeats 4000000 in
theorem c_X10_isPlayer {l : Launch} {G : gt_G} {n : Nat} {w : gt_W} {K : gx_K} (hM : gx_mc (w 162) K) (kw : gx_KW K) (x : Int32) : gt_C l G yX10_isPlayer cX10_isPlayer 2 (some .boolean) 2 0 0 n [.ref 161, .int x] (gt_enc w) (some (.int (gx_in x (nI (K 0 2))))) (gt_enc (w)) := by
  refine gt_C_of (own := RX10) (nm := "isPlayer") rfl rfl (by decide +kernel) (Nat.le_of_ble_eq_true rfl) ?_
  show gt_A _ _ _ _ _ _ _ _ _ _ _ [(0, .ref 161), (1, .int x)] _ _
  refine ga_iload_n 1 dX10_isPlayer_0 rfl ?_
  refine ga_i2l dX10_isPlayer_1 ?_
  refine ga_lconst 0 dX10_isPlayer_2 (by decide) ?_
  refine ga_aload_n 0 dX10_isPlayer_3 rfl ?_
  refine ga_get kf_X10_7 (sh161 _) rfl dX10_isPlayer_4 ?_
  refine ga_iconst (nI 2) dX10_isPlayer_7 (by decide) ?_
  refine gm_c2 hM dX10_isPlayer_8 ?_
  refine ga_iconst (nI 1) dX10_isPlayer_9 (by decide) ?_
  refine ga_isub dX10_isPlayer_10 ?_
  refine ga_i2l dX10_isPlayer_11 ?_
  refine ga_S3 km_X10_64 kv_X10_in (c_X10_in (x := x) (a := nI 0) (b := nI (K 0 2) - nI 1) rfl (by decide) rfl) (gt_rc0 (by decide)) (Nat.le_of_ble_eq_true rfl) dX10_isPlayer_12 ?_
  exact ga_zret dX10_isPlayer_15 (by rw [gx_wi_in (by have := kw.2.2.1; omega)]; unfold gx_in; split <;> decide) (gv (gx_wi_in (by have := kw.2.2.1; omega)).symm) rfl
set_option maxRecDepth 100000 in
set_option maxHeartbeats 4000000 in
theorem c_X10_isBoat {l : Launch} {G : gt_G} {n : Nat} {w : gt_W} {K : gx_K} (hM : gx_mc (w 162) K) (kw : gx_KW K) (x : Int32) : gt_C l G yX10_isBoat cX10_isBoat 2 (some .boolean) 2 0 0 n [.ref 161, .int x] (gt_enc w) (some (.int (gx_in x (nI (K 0 3))))) (gt_enc (w)) := by
  refine gt_C_of (own := RX10) (nm := "isBoat") rfl rfl (by decide +kernel) (Nat.le_of_ble_eq_true rfl) ?_
  show gt_A _ _ _ _ _ _ _ _ _ _ _ [(0, .ref 161), (1, .int x)] _ _
  refine ga_iload_n 1 dX10_isBoat_0 rfl ?_
  refine ga_i2l dX10_isBoat_1 ?_
  refine ga_lconst 0 dX10_isBoat_2 (by decide) ?_
  refine ga_aload_n 0 dX10_isBoat_3 rfl ?_
  refine ga_get kf_X10_7 (sh161 _) rfl dX10_isBoat_4 ?_
  refine ga_iconst (nI 3) dX10_isBoat_7 (by decide) ?_
  refine gm_c3 hM dX10_isBoat_8 ?_
  refine ga_iconst (nI 1) dX10_isBoat_9 (by decide) ?_
  refine ga_isub dX10_isBoat_10 ?_
  refine ga_i2l dX10_isBoat_11 ?_
  refine ga_S3 km_X10_64 kv_X10_in (c_X10_in (x := x) (a := nI 0) (b := nI (K 0 3) - nI 1) rfl (by decide) rfl) (gt_rc0 (by decide)) (Nat.le_of_ble_eq_true rfl) dX10_isBoat_12 ?_
  exact ga_zret dX10_isBoat_15 (by rw [gx_wi_in (by have := kw.2.2.2.1; omega)]; unfold gx_in; split <;> decide) (gv (gx_wi_in (by have := kw.2.2.2.1; omega)).symm) rfl
set_option maxRecDepth 100000 in
set_option maxHeartbeats 4000000 in
theorem c_X10_bears {l : Launch} {G : gt_G} {n : Nat} {w : gt_W} {a : Nat} {K V : gx_K} {m : Int32} {t k : Nat} (hM : gx_mc (w 162) K) (kw : gx_KW K) (ha : gx_As a) (hV : gx_ms (w a) K V m) (vw : gx_VW K V) (ht : t < K 0 1) (hk : k < 11) : gt_C l G yX10_bears cX10_bears 5 (some .int) 2 0 0 n [.ref 161, .ref a, .int (nI t), .int (nI k)] (gt_enc w) (some (.int (nI (gx_bf K V k t)))) (gt_enc (w)) := by
  have hw9 := vw.2.1 t ht
  have hf9 := kw.2.2.2.2.2.2.1 t ht
  have hc9 := kw.2.2.2.2.2.1 t ht
  have hn9 := kw.1
  have hd8 : gx_dist k (K 2 t) ≤ 11 := by unfold gx_dist; split <;> omega
  have hm9 : K 3 t * gx_dist k (K 2 t) ≤ 20 * 11 := Nat.mul_le_mul hf9.2 hd8
  refine gt_C_of (own := RX10) (nm := "bears") rfl rfl (by decide +kernel) (Nat.le_of_ble_eq_true rfl) ?_
  show gt_A _ _ _ _ _ _ _ _ _ _ _ [(0, .ref 161), (1, .ref a), (2, .int (nI t)), (3, .int (nI k))] _ _
  refine ga_iload_n 3 dX10_bears_0 rfl ?_
  refine ga_aload_n 0 dX10_bears_1 rfl ?_
  refine ga_get kf_X10_7 (sh161 _) rfl dX10_bears_2 ?_
  refine ga_bipush (nI 14) dX10_bears_5 (by decide) ?_
  refine ga_iload_n 2 dX10_bears_7 rfl ?_
  refine ga_iadd dX10_bears_8 ?_
  refine gm_C2 hM kw (by omega) dX10_bears_9 ?_
  refine ga_isub dX10_bears_10 ?_
  refine gs_istore [(0, _), (1, _), (2, _), (3, _), (4, _)] dX10_bears_11 (by decide) rfl rfl ?_
  refine ga_iload 4 dX10_bears_13 rfl ?_
  refine ga_if_ge 24 dX10_bears_15 (by decide) (fun c_15 => ?_) (fun c_15 => ?_)
  · have hd9 : nI k - nI (K 2 t) = nI (gx_dist k (K 2 t)) := by
      have h2 : K 2 t ≤ k := by
        rcases Nat.lt_or_ge k (K 2 t) with q | q
        · exact absurd c_15 (Int32.not_le.mpr (pk_sneg (by omega) q))
        · exact q
      unfold gx_dist
      rw [pk_sub h2]
      by_cases e : k ≤ K 2 t
      · rw [if_pos e, show k = K 2 t by omega]
      · rw [if_neg e]
    refine ga_iload 4 dX10_bears_24 rfl ?_
    refine gs_istore [(0, _), (1, _), (2, _), (3, _), (4, _)] dX10_bears_26 (by decide) rfl rfl ?_
    rw [hd9]
    refine ga_iconst (nI 0) dX10_bears_28 (by decide) ?_
    refine ga_aload_n 1 dX10_bears_29 rfl ?_
    refine ga_iconst (nI 0) dX10_bears_30 (by decide) ?_
    refine ga_iload_n 2 dX10_bears_31 rfl ?_
    refine ga_iadd dX10_bears_32 ?_
    refine gm_S1 (shA ha) hV kw (by omega) dX10_bears_33 ?_
    refine ga_aload_n 0 dX10_bears_34 rfl ?_
    refine ga_get kf_X10_7 (sh161 _) rfl dX10_bears_35 ?_
    refine ga_bipush (nI 20) dX10_bears_38 (by decide) ?_
    refine ga_iload_n 2 dX10_bears_40 rfl ?_
    refine ga_iadd dX10_bears_41 ?_
    refine gm_C3 hM kw (by omega) dX10_bears_42 ?_
    refine ga_iload 4 dX10_bears_43 rfl ?_
    refine ga_imul dX10_bears_45 ?_
    refine ga_isub dX10_bears_46 ?_
    refine ga_S2 km_X10_147 kv_X10_greater c_X10_greater (gt_rc0 (by decide)) (Nat.le_of_ble_eq_true rfl) dX10_bears_47 ?_
    exact ga_iret dX10_bears_50 (gv (by rw [pk_mul]; exact (gx_max0' (by omega) (by omega)).symm)) rfl
  · have hd9 : -(nI k - nI (K 2 t)) = nI (gx_dist k (K 2 t)) := by
      have h2 : k < K 2 t := by
        rcases Nat.lt_or_ge k (K 2 t) with q | q
        · exact q
        · exact absurd (by rw [pk_sub q]; exact nI_pos' (by omega)) c_15
      unfold gx_dist
      rw [if_pos (by omega), ← pk_sub (show k ≤ K 2 t by omega)]
      apply Int32.toBitVec_inj.mp
      simp [Int32.toBitVec_sub]
    refine ga_iload 4 dX10_bears_18 rfl ?_
    refine ga_ineg dX10_bears_20 ?_
    refine ga_goto 26 dX10_bears_21 (by decide) ?_
    refine gs_istore [(0, _), (1, _), (2, _), (3, _), (4, _)] dX10_bears_26 (by decide) rfl rfl ?_
    rw [hd9]
    refine ga_iconst (nI 0) dX10_bears_28 (by decide) ?_
    refine ga_aload_n 1 dX10_bears_29 rfl ?_
    refine ga_iconst (nI 0) dX10_bears_30 (by decide) ?_
    refine ga_iload_n 2 dX10_bears_31 rfl ?_
    refine ga_iadd dX10_bears_32 ?_
    refine gm_S1 (shA ha) hV kw (by omega) dX10_bears_33 ?_
    refine ga_aload_n 0 dX10_bears_34 rfl ?_
    refine ga_get kf_X10_7 (sh161 _) rfl dX10_bears_35 ?_
    refine ga_bipush (nI 20) dX10_bears_38 (by decide) ?_
    refine ga_iload_n 2 dX10_bears_40 rfl ?_
    refine ga_iadd dX10_bears_41 ?_
    refine gm_C3 hM kw (by omega) dX10_bears_42 ?_
    refine ga_iload 4 dX10_bears_43 rfl ?_
    refine ga_imul dX10_bears_45 ?_
    refine ga_isub dX10_bears_46 ?_
    refine ga_S2 km_X10_147 kv_X10_greater c_X10_greater (gt_rc0 (by decide)) (Nat.le_of_ble_eq_true rfl) dX10_bears_47 ?_
    exact ga_iret dX10_bears_50 (gv (by rw [pk_mul]; exact (gx_max0' (by omega) (by omega)).symm)) rfl
set_option maxRecDepth 100000 in
set_option maxHeartbeats 4000000 in
theorem c_X10_seaOn {l : Launch} {G : gt_G} {n : Nat} {w : gt_W} {a : Nat} {K V : gx_K} {m : Int32} {k : Nat} (hM : gx_mc (w 162) K) (kw : gx_KW K) (ha : gx_As a) (hV : gx_ms (w a) K V m) (vw : gx_VW K V) (hk : k < 11) : gt_C l G yX10_seaOn cX10_seaOn 5 (some .int) 3 0 0 n [.ref 161, .ref a, .int (nI k)] (gt_enc w) (some (.int (nI (gx_sea K V k)))) (gt_enc (w)) := by
  refine gt_C_of (own := RX10) (nm := "seaOn") rfl rfl (by decide +kernel) (Nat.le_of_ble_eq_true rfl) ?_
  show gt_A _ _ _ _ _ _ _ _ _ _ _ [(0, .ref 161), (1, .ref a), (2, .int (nI k))] _ _
  refine ga_iconst (nI 0) dX10_seaOn_0 (by decide) ?_
  refine gs_istore_n [(0, _), (1, _), (2, _), (3, _)] dX10_seaOn_1 (by decide) rfl rfl ?_
  refine ga_iconst (nI 0) dX10_seaOn_2 (by decide) ?_
  refine gs_istore [(0, _), (1, _), (2, _), (3, _), (4, _)] dX10_seaOn_3 (by decide) rfl rfl ?_
  have loop : ∀ j t, t + j = K 0 1 → gt_A l G RX10 "seaOn" cX10_seaOn 5 (some .int) (gt_rm 3 0 0) (gt_Z G (n + 0) 0 0 (some (.int (nI (gx_sea K V k)))) (gt_enc (w))) (n, 0, 0) 5 [(0, .ref 161), (1, .ref a), (2, .int (nI k)), (3, .int (nI (gx_sum (gx_bf K V k) t))), (4, .int (nI t))] [] (gt_enc w) := by
    intro j
    induction j with
    | zero =>
      intro t ht
      have et : t = K 0 1 := by omega
      refine ga_iload 4 dX10_seaOn_5 rfl ?_
      refine ga_aload_n 0 dX10_seaOn_7 rfl ?_
      refine ga_get kf_X10_7 (sh161 _) rfl dX10_seaOn_8 ?_
      refine ga_iconst (nI 1) dX10_seaOn_11 (by decide) ?_
      refine gm_c1 hM dX10_seaOn_12 ?_
      refine ga_icmp_ge 33 dX10_seaOn_13 (by decide) (fun c_13 => ?_) (fun c_13 => absurd (nI_le (by omega) (by have := kw.2.1; omega)) c_13)
      refine ga_iload_n 3 dX10_seaOn_33 rfl ?_
      exact ga_iret dX10_seaOn_34 (gv (by rw [et]; rfl)) rfl
    | succ j ih =>
      intro t ht
      refine ga_iload 4 dX10_seaOn_5 rfl ?_
      refine ga_aload_n 0 dX10_seaOn_7 rfl ?_
      refine ga_get kf_X10_7 (sh161 _) rfl dX10_seaOn_8 ?_
      refine ga_iconst (nI 1) dX10_seaOn_11 (by decide) ?_
      refine gm_c1 hM dX10_seaOn_12 ?_
      refine ga_icmp_ge 33 dX10_seaOn_13 (by decide) (fun c_13 => absurd c_13 (nI_ge (by omega) (by have := kw.2.1; omega))) (fun c_13 => ?_)
      refine ga_iload_n 3 dX10_seaOn_16 rfl ?_
      refine ga_aload_n 0 dX10_seaOn_17 rfl ?_
      refine ga_aload_n 1 dX10_seaOn_18 rfl ?_
      refine ga_iload 4 dX10_seaOn_19 rfl ?_
      refine ga_iload_n 2 dX10_seaOn_21 rfl ?_
      refine ga_V3 km_X10_151 kv_X10_bears (c_X10_bears hM kw ha hV vw (by omega) hk) (sh161 _) rfl rfl (gt_rc0 (by decide)) (Nat.le_of_ble_eq_true rfl) dX10_seaOn_22 ?_
      refine ga_iadd dX10_seaOn_25 ?_
      refine ga_top (nI (gx_sum (gx_bf K V k) (t + 1))) (nI_add _ _) ?_
      refine gs_istore_n [(0, _), (1, _), (2, _), (3, _), (4, _)] dX10_seaOn_26 (by decide) rfl rfl ?_
      refine gs_iincN 4 1 [(0, _), (1, _), (2, _), (3, _), (4, _)] dX10_seaOn_27 rfl (by decide) (by decide) rfl rfl ?_
      refine ga_goto 5 dX10_seaOn_30 (by decide) ?_
      exact ih (t + 1) (by omega)
  exact loop (K 0 1) 0 (by omega)
set_option maxRecDepth 100000 in
set_option maxHeartbeats 4000000 in
theorem c_X10_depthOn {l : Launch} {G : gt_G} {n : Nat} {w : gt_W} {a : Nat} {K V : gx_K} {m : Int32} {k : Nat} (hM : gx_mc (w 162) K) (kw : gx_KW K) (ha : gx_As a) (hV : gx_ms (w a) K V m) (vw : gx_VW K V) (hk : k < K 0 0) : gt_C l G yX10_depthOn cX10_depthOn 3 (some .int) 4 0 0 n [.ref 161, .ref a, .int (nI k)] (gt_enc w) (some (.int (nI (gx_dep K V k)))) (gt_enc (w)) := by
  refine gt_C_of (own := RX10) (nm := "depthOn") rfl rfl (by decide +kernel) (Nat.le_of_ble_eq_true rfl) ?_
  show gt_A _ _ _ _ _ _ _ _ _ _ _ [(0, .ref 161), (1, .ref a), (2, .int (nI k))] _ _
  refine ga_iconst (nI 0) dX10_depthOn_0 (by decide) ?_
  refine ga_aload_n 0 dX10_depthOn_1 rfl ?_
  refine ga_aload_n 1 dX10_depthOn_2 rfl ?_
  refine ga_iload_n 2 dX10_depthOn_3 rfl ?_
  refine ga_V2 km_X10_155 kv_X10_seaOn (c_X10_seaOn hM kw ha hV vw (by have := kw.1; omega)) (sh161 _) rfl rfl (gt_rc0 (by decide)) (Nat.le_of_ble_eq_true rfl) dX10_depthOn_4 ?_
  refine ga_aload_n 0 dX10_depthOn_7 rfl ?_
  refine ga_get kf_X10_7 (sh161 _) rfl dX10_depthOn_8 ?_
  refine ga_iconst (nI 4) dX10_depthOn_11 (by decide) ?_
  refine ga_iload_n 2 dX10_depthOn_12 rfl ?_
  refine ga_iadd dX10_depthOn_13 ?_
  refine gm_C1 hM kw hk dX10_depthOn_14 ?_
  refine ga_isub dX10_depthOn_15 ?_
  refine ga_S2 km_X10_147 kv_X10_greater c_X10_greater (gt_rc0 (by decide)) (Nat.le_of_ble_eq_true rfl) dX10_depthOn_16 ?_
  exact ga_iret dX10_depthOn_19 (gv (by have := gx_sea_le kw vw k; have := kw.2.2.2.2.1 k hk; exact (gx_max0' (by omega) (by omega)).symm)) rfl
set_option maxRecDepth 100000 in
set_option maxHeartbeats 4000000 in
theorem c_X10_unlike {l : Launch} {G : gt_G} {n : Nat} {w : gt_W} {a : Nat} {K V : gx_K} {m : Int32} {k : Nat} (hM : gx_mc (w 162) K) (kw : gx_KW K) (ha : gx_As a) (hV : gx_ms (w a) K V m) (vw : gx_VW K V) (hk : k + 1 < 11) : gt_C l G yX10_unlike cX10_unlike 4 (some .int) 4 0 0 n [.ref 161, .ref a, .int (nI k)] (gt_enc w) (some (.int (nI (gx_un K V k)))) (gt_enc (w)) := by
  have l1 := gx_sea_le kw vw k
  have l2 := gx_sea_le kw vw (k + 1)
  refine gt_C_of (own := RX10) (nm := "unlike") rfl rfl (by decide +kernel) (Nat.le_of_ble_eq_true rfl) ?_
  show gt_A _ _ _ _ _ _ _ _ _ _ _ [(0, .ref 161), (1, .ref a), (2, .int (nI k))] _ _
  refine ga_aload_n 0 dX10_unlike_0 rfl ?_
  refine ga_aload_n 1 dX10_unlike_1 rfl ?_
  refine ga_iload_n 2 dX10_unlike_2 rfl ?_
  refine ga_V2 km_X10_155 kv_X10_seaOn (c_X10_seaOn hM kw ha hV vw (by omega)) (sh161 _) rfl rfl (gt_rc0 (by decide)) (Nat.le_of_ble_eq_true rfl) dX10_unlike_3 ?_
  refine ga_aload_n 0 dX10_unlike_6 rfl ?_
  refine ga_aload_n 1 dX10_unlike_7 rfl ?_
  refine ga_iload_n 2 dX10_unlike_8 rfl ?_
  refine ga_iconst (nI 1) dX10_unlike_9 (by decide) ?_
  refine ga_iadd dX10_unlike_10 ?_
  refine ga_top (nI (k + 1)) (nI_add _ _) ?_
  refine ga_V2 km_X10_155 kv_X10_seaOn (c_X10_seaOn hM kw ha hV vw (by omega)) (sh161 _) rfl rfl (gt_rc0 (by decide)) (Nat.le_of_ble_eq_true rfl) dX10_unlike_11 ?_
  refine ga_isub dX10_unlike_14 ?_
  refine gs_istore_n [(0, _), (1, _), (2, _), (3, _)] dX10_unlike_15 (by decide) rfl rfl ?_
  refine ga_iload_n 3 dX10_unlike_16 rfl ?_
  refine ga_if_ge 25 dX10_unlike_17 (by decide) (fun c_17 => ?_) (fun c_17 => ?_)
  · have hd9 : nI (gx_sea K V k) - nI (gx_sea K V (k + 1)) = nI (gx_un K V k) := by
      have h := gx_absN (a := gx_sea K V k) (b := gx_sea K V (k + 1)) (by omega) (by omega)
      rw [if_pos c_17] at h
      exact h
    refine ga_iload_n 3 dX10_unlike_25 rfl ?_
    exact ga_iret dX10_unlike_26 (gv hd9.symm) rfl
  · have hd9 : -(nI (gx_sea K V k) - nI (gx_sea K V (k + 1))) = nI (gx_un K V k) := by
      have h := gx_absN (a := gx_sea K V k) (b := gx_sea K V (k + 1)) (by omega) (by omega)
      rw [if_neg c_17, Int32.zero_sub] at h
      exact h
    refine ga_iload_n 3 dX10_unlike_20 rfl ?_
    refine ga_ineg dX10_unlike_21 ?_
    refine ga_goto 26 dX10_unlike_22 (by decide) ?_
    exact ga_iret dX10_unlike_26 (gv hd9.symm) rfl
