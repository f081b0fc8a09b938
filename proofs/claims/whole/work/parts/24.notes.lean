/-- what is noted: Q 0: marks, seen, entries; Q 1 .. 3: the marks' cells, hours, seas; Q 4 .. 6: seen wound, far, borne; Q 7, 8: the book's cells, seas -/
def gx_No (w : gt_W) (Q : gx_K) : Prop := (w 114 0 = nI (Q 0 0) ∧ w 114 1 = nI (Q 0 1) ∧ w 114 2 = nI (Q 0 2)) ∧ (∀ j, j < Q 0 0 → w 115 j = nI (Q 1 j)) ∧ (∀ j, j < Q 0 0 → w 116 j = nI (Q 2 j)) ∧ (∀ j, j < Q 0 0 → w 117 j = nI (Q 3 j)) ∧ (∀ j, j < Q 0 1 → w 118 j = nI (Q 4 j)) ∧ (∀ j, j < Q 0 1 → w 119 j = nI (Q 5 j)) ∧ (∀ j, j < Q 0 1 → w 120 j = nI (Q 6 j)) ∧ (∀ j, j < Q 0 2 → w 121 j = nI (Q 7 j)) ∧ (∀ j, j < Q 0 2 → w 122 j = nI (Q 8 j))
def gx_QW (K Q : gx_K) : Prop := (Q 0 0 ≤ 6 ∧ Q 0 1 ≤ 6 ∧ Q 0 2 ≤ 15) ∧ (∀ j, j < Q 0 0 → Q 1 j < K 0 0 ∧ 1 ≤ Q 2 j ∧ Q 2 j ≤ 20 ∧ Q 3 j ≤ 999) ∧ (∀ j, j < Q 0 1 → Q 4 j ≤ 99 ∧ Q 5 j ≤ 9 ∧ Q 6 j ≤ 99) ∧ (∀ j, j < Q 0 2 → Q 7 j < K 0 0 ∧ Q 8 j ≤ 999)
theorem gx_No_eq {w w' : gt_W} {Q : gx_K} (e : ∀ a, 114 ≤ a → a < 123 → w' a = w a) (h : gx_No w Q) : gx_No w' Q := by
  unfold gx_No at h ⊢
  rw [e 114 (by decide) (by decide), e 115 (by decide) (by decide), e 116 (by decide) (by decide), e 117 (by decide) (by decide), e 118 (by decide) (by decide), e 119 (by decide) (by decide), e 120 (by decide) (by decide), e 121 (by decide) (by decide), e 122 (by decide) (by decide)]
  exact h
section GQ
variable {l : Launch} {G : gt_G} {own nm : String} {cc : ByteArray} {mL : Nat} {rt : Option FieldType} {R : Room} {Z : gt_Zt} {N : Nat × Nat × Nat} {pc : Nat} {lv : List (Nat × Value)} {st : List Value} {w : gt_W} {t : Nat} {K Q : gx_K}
theorem gl_Q1 (hQ : gx_No w Q) (qw : gx_QW K Q) (ht : t < Q 0 0) (hd : decode cc pc = .ok (.iaload, 1)) (kk : gt_A l G own nm cc mL rt R Z N (pc + 1) lv (.int (nI (Q 1 t)) :: st) (gt_enc w)) : gt_A l G own nm cc mL rt R Z N pc lv (.int (nI t) :: .ref 115 :: st) (gt_enc w) := ge_ialdE sh115 (gt_ixn (Nat.lt_of_lt_of_le ht qw.1.1)) (hQ.2.1 t ht) hd kk
theorem gl_Q2 (hQ : gx_No w Q) (qw : gx_QW K Q) (ht : t < Q 0 0) (hd : decode cc pc = .ok (.iaload, 1)) (kk : gt_A l G own nm cc mL rt R Z N (pc + 1) lv (.int (nI (Q 2 t)) :: st) (gt_enc w)) : gt_A l G own nm cc mL rt R Z N pc lv (.int (nI t) :: .ref 116 :: st) (gt_enc w) := ge_ialdE sh116 (gt_ixn (Nat.lt_of_lt_of_le ht qw.1.1)) (hQ.2.2.1 t ht) hd kk
theorem gl_Q3 (hQ : gx_No w Q) (qw : gx_QW K Q) (ht : t < Q 0 0) (hd : decode cc pc = .ok (.iaload, 1)) (kk : gt_A l G own nm cc mL rt R Z N (pc + 1) lv (.int (nI (Q 3 t)) :: st) (gt_enc w)) : gt_A l G own nm cc mL rt R Z N pc lv (.int (nI t) :: .ref 117 :: st) (gt_enc w) := ge_ialdE sh117 (gt_ixn (Nat.lt_of_lt_of_le ht qw.1.1)) (hQ.2.2.2.1 t ht) hd kk
theorem gl_Q4 (hQ : gx_No w Q) (qw : gx_QW K Q) (ht : t < Q 0 1) (hd : decode cc pc = .ok (.iaload, 1)) (kk : gt_A l G own nm cc mL rt R Z N (pc + 1) lv (.int (nI (Q 4 t)) :: st) (gt_enc w)) : gt_A l G own nm cc mL rt R Z N pc lv (.int (nI t) :: .ref 118 :: st) (gt_enc w) := ge_ialdE sh118 (gt_ixn (Nat.lt_of_lt_of_le ht qw.1.2.1)) (hQ.2.2.2.2.1 t ht) hd kk
theorem gl_Q5 (hQ : gx_No w Q) (qw : gx_QW K Q) (ht : t < Q 0 1) (hd : decode cc pc = .ok (.iaload, 1)) (kk : gt_A l G own nm cc mL rt R Z N (pc + 1) lv (.int (nI (Q 5 t)) :: st) (gt_enc w)) : gt_A l G own nm cc mL rt R Z N pc lv (.int (nI t) :: .ref 119 :: st) (gt_enc w) := ge_ialdE sh119 (gt_ixn (Nat.lt_of_lt_of_le ht qw.1.2.1)) (hQ.2.2.2.2.2.1 t ht) hd kk
theorem gl_Q6 (hQ : gx_No w Q) (qw : gx_QW K Q) (ht : t < Q 0 1) (hd : decode cc pc = .ok (.iaload, 1)) (kk : gt_A l G own nm cc mL rt R Z N (pc + 1) lv (.int (nI (Q 6 t)) :: st) (gt_enc w)) : gt_A l G own nm cc mL rt R Z N pc lv (.int (nI t) :: .ref 120 :: st) (gt_enc w) := ge_ialdE sh120 (gt_ixn (Nat.lt_of_lt_of_le ht qw.1.2.1)) (hQ.2.2.2.2.2.2.1 t ht) hd kk
theorem gl_Q7 (hQ : gx_No w Q) (qw : gx_QW K Q) (ht : t < Q 0 2) (hd : decode cc pc = .ok (.iaload, 1)) (kk : gt_A l G own nm cc mL rt R Z N (pc + 1) lv (.int (nI (Q 7 t)) :: st) (gt_enc w)) : gt_A l G own nm cc mL rt R Z N pc lv (.int (nI t) :: .ref 121 :: st) (gt_enc w) := ge_ialdE sh121 (gt_ixn (Nat.lt_of_lt_of_le ht qw.1.2.2)) (hQ.2.2.2.2.2.2.2.1 t ht) hd kk
theorem gl_Q8 (hQ : gx_No w Q) (qw : gx_QW K Q) (ht : t < Q 0 2) (hd : decode cc pc = .ok (.iaload, 1)) (kk : gt_A l G own nm cc mL rt R Z N (pc + 1) lv (.int (nI (Q 8 t)) :: st) (gt_enc w)) : gt_A l G own nm cc mL rt R Z N pc lv (.int (nI t) :: .ref 122 :: st) (gt_enc w) := ge_ialdE sh122 (gt_ixn (Nat.lt_of_lt_of_le ht qw.1.2.2)) (hQ.2.2.2.2.2.2.2.2 t ht) hd kk
end GQ
set_option maxRecDepth 100000 in
set_option maxHeartbeats 4000000 in
theorem c_X4_remember {l : Launch} {G : gt_G} {n : Nat} {w : gt_W} {nx cnt : Nat} (h1 : w 30 1 = nI nx) (h2 : w 30 2 = nI cnt) (hx : nx < 16) (hn : cnt ≤ 16) : gt_D l G yX4_remember cX4_remember 2 none 2 n [.ref 30, .ref 20] w (fun r w' => r = none ∧ (∀ a, a ≠ 30 → (a < 32 + 5 * nx ∨ 32 + 5 * nx + 5 ≤ a) → w' a = w a) ∧ w' 30 1 = nI ((nx + 1) % 16) ∧ w' 30 2 = nI (min 16 (cnt + 1)) ∧ ∀ (K V : gx_K) (m : Int32), gx_KW K → gx_St w 20 K V m → gx_St w' (32 + 5 * nx) K V m) := by
  refine gt_D_of (own := RX4) (nm := "remember") rfl rfl (by decide +kernel) (Nat.le_of_ble_eq_true rfl) ?_
  show gt_A _ _ _ _ _ _ _ _ _ _ _ [(0, .ref 30), (1, .ref 20)] _ _
  refine ga_aload_n 0 dX4_remember_0 rfl ?_
  refine ga_get kf_X4_11 (sh30 _) rfl dX4_remember_1 ?_
  refine ga_aload_n 0 dX4_remember_4 rfl ?_
  refine ga_get kf_X4_18 (sh30 _) (gv h1) dX4_remember_5 ?_
  refine ge_aald sh31 rfl rfl (gt_ixn hx) (if_pos hx) dX4_remember_8 ?_
  refine ga_aload_n 1 dX4_remember_9 rfl ?_
  refine gd_V1 km_X4_22 kv_X8_copy (c_X8_copy (isSr hx) isS20 (Or.inr (by omega))) (shS (isSr hx) _) rfl rfl (gt_rc0 (by decide)) (Nat.le_of_ble_eq_true rfl) dX4_remember_10 (fun r_10 w_10 q_10 => ?_)
  obtain ⟨rfl, hF, hcp⟩ := q_10
  refine ga_aload_n 0 dX4_remember_13 rfl ?_
  refine ga_aload_n 0 dX4_remember_14 rfl ?_
  refine ga_get kf_X4_18 (sh30 _) (gv ((congrFun (hF 30 (Or.inl (by omega))) 1).trans h1)) dX4_remember_15 ?_
  refine ga_iconst (nI 1) dX4_remember_18 (by decide) ?_
  refine ga_iadd dX4_remember_19 ?_
  refine ga_bipush (nI 16) dX4_remember_20 (by decide) ?_
  refine ga_irem dX4_remember_22 (by decide) ?_
  refine ga_top (nI ((nx + 1) % 16)) (by rw [nI_add, pk_rem (by omega) (by omega) (by omega)]) ?_
  refine gp_int 1 kp_X4_18 (sh30 _) (sh30 _) rfl rfl (Nat.le_of_ble_eq_true rfl) dX4_remember_23 ?_
  refine ga_aload_n 0 dX4_remember_26 rfl ?_
  refine ga_bipush (nI 16) dX4_remember_27 (by decide) ?_
  refine ga_aload_n 0 dX4_remember_29 rfl ?_
  refine ga_get kf_X4_26 (sh30 _) (gvv (nI cnt) (by rw [gt_wr_eq, upd_ne _ _ (by decide), hF 30 (Or.inl (by omega))]; exact h2)) dX4_remember_30 ?_
  refine ga_iconst (nI 1) dX4_remember_33 (by decide) ?_
  refine ga_iadd dX4_remember_34 ?_
  refine ga_min km_X4_29 kmath_min (gt_room0 (by decide)) (Nat.le_of_ble_eq_true rfl) dX4_remember_35 ?_
  refine ga_top (nI (min 16 (cnt + 1))) (by rw [nI_add]; exact gx_minN (by omega) (by omega)) ?_
  refine gp_int 2 kp_X4_26 (sh30 _) (sh30 _) rfl rfl (Nat.le_of_ble_eq_true rfl) dX4_remember_38 ?_
  exact gd_vret dX4_remember_41 ⟨rfl, fun a h3 h4 => by rw [gt_wr_ne _ _ h3, gt_wr_ne _ _ h3]; exact hF a h4, by rw [gt_wr_eq, upd_ne _ _ (by decide), gt_wr_eq, upd_eq], by rw [gt_wr_eq, upd_eq], fun K V m kw h => gx_St_eq (fun a h3 h4 => by rw [gt_wr_ne _ _ (by omega), gt_wr_ne _ _ (by omega)]) (hcp K V m kw h)⟩
set_option maxRecDepth 100000 in
set_option maxHeartbeats 4000000 in
theorem c_X4_recall {l : Launch} {G : gt_G} {n : Nat} {w : gt_W} {nx cnt : Nat} (h1 : w 30 1 = nI nx) (h2 : w 30 2 = nI cnt) (hx : nx < 16) (hn : 1 ≤ cnt) : gt_D l G yX4_recall cX4_recall 2 none 2 n [.ref 30, .ref 20] w (fun r w' => r = none ∧ (∀ a, a ≠ 30 → (a < 20 ∨ 25 ≤ a) → w' a = w a) ∧ w' 30 1 = nI ((nx + 15) % 16) ∧ w' 30 2 = nI (cnt - 1) ∧ ∀ (K V : gx_K) (m : Int32), gx_KW K → gx_St w (32 + 5 * ((nx + 15) % 16)) K V m → gx_St w' 20 K V m) := by
  have hx2 : (nx + 15) % 16 < 16 := Nat.mod_lt _ (by decide)
  refine gt_D_of (own := RX4) (nm := "recall") rfl rfl (by decide +kernel) (Nat.le_of_ble_eq_true rfl) ?_
  show gt_A _ _ _ _ _ _ _ _ _ _ _ [(0, .ref 30), (1, .ref 20)] _ _
  refine ga_aload_n 0 dX4_recall_0 rfl ?_
  refine ga_aload_n 0 dX4_recall_1 rfl ?_
  refine ga_get kf_X4_18 (sh30 _) (gv h1) dX4_recall_2 ?_
  refine ga_bipush (nI 16) dX4_recall_5 (by decide) ?_
  refine ga_iadd dX4_recall_7 ?_
  refine ga_iconst (nI 1) dX4_recall_8 (by decide) ?_
  refine ga_isub dX4_recall_9 ?_
  refine ga_bipush (nI 16) dX4_recall_10 (by decide) ?_
  refine ga_irem dX4_recall_12 (by decide) ?_
  refine ga_top (nI ((nx + 15) % 16)) (by rw [nI_add, pk_sub (by omega), pk_rem (by omega) (by omega) (by omega), show nx + 16 - 1 = nx + 15 by omega]) ?_
  refine gp_int 1 kp_X4_18 (sh30 _) (sh30 _) rfl rfl (Nat.le_of_ble_eq_true rfl) dX4_recall_13 ?_
  refine ga_aload_n 0 dX4_recall_16 rfl ?_
  refine ga_dup dX4_recall_17 rfl ?_
  refine ga_get kf_X4_26 (sh30 _) (gvv (nI cnt) (by rw [gt_wr_eq, upd_ne _ _ (by decide)]; exact h2)) dX4_recall_18 ?_
  refine ga_iconst (nI 1) dX4_recall_21 (by decide) ?_
  refine ga_isub dX4_recall_22 ?_
  refine ga_top (nI (cnt - 1)) (pk_sub hn) ?_
  refine gp_int 2 kp_X4_26 (sh30 _) (sh30 _) rfl rfl (Nat.le_of_ble_eq_true rfl) dX4_recall_23 ?_
  refine ga_aload_n 1 dX4_recall_26 rfl ?_
  refine ga_aload_n 0 dX4_recall_27 rfl ?_
  refine ga_get kf_X4_11 (sh30 _) rfl dX4_recall_28 ?_
  refine ga_aload_n 0 dX4_recall_31 rfl ?_
  refine ga_get kf_X4_18 (sh30 _) (gvv (nI ((nx + 15) % 16)) (by rw [gt_wr_eq, upd_ne _ _ (by decide), gt_wr_eq, upd_eq])) dX4_recall_32 ?_
  refine ge_aald sh31 rfl rfl (gt_ixn hx2) (if_pos hx2) dX4_recall_35 ?_
  refine gd_V1 km_X4_22 kv_X8_copy (c_X8_copy isS20 (isSr hx2) (Or.inl (by omega))) (shS isS20 _) rfl rfl (gt_rc0 (by decide)) (Nat.le_of_ble_eq_true rfl) dX4_recall_36 (fun r_36 w_36 q_36 => ?_)
  obtain ⟨rfl, hF, hcp⟩ := q_36
  exact gd_vret dX4_recall_39 ⟨rfl, fun a h3 h4 => by rw [hF a h4, gt_wr_ne _ _ h3, gt_wr_ne _ _ h3], by rw [hF 30 (by omega), gt_wr_eq, upd_ne _ _ (by decide), gt_wr_eq, upd_eq], by rw [hF 30 (by omega), gt_wr_eq, upd_eq], fun K V m kw h => hcp K V m kw (gx_St_eq (fun a h3 h4 => by rw [gt_wr_ne _ _ (by omega), gt_wr_ne _ _ (by omega)]) h)⟩
set_option maxRecDepth 100000 in
set_option maxHeartbeats 4000000 in
theorem c_X4_forget {l : Launch} {G : gt_G} {n : Nat} {w : gt_W}  : gt_C l G yX4_forget cX4_forget 1 none 1 0 0 n [.ref 30] (gt_enc w) (none) (gt_enc (gt_wr w 30 (upd (w 30) 2 (nI 0)))) := by
  refine gt_C_of (own := RX4) (nm := "forget") rfl rfl (by decide +kernel) (Nat.le_of_ble_eq_true rfl) ?_
  show gt_A _ _ _ _ _ _ _ _ _ _ _ [(0, .ref 30)] _ _
  refine ga_aload_n 0 dX4_forget_0 rfl ?_
  refine ga_iconst (nI 0) dX4_forget_1 (by decide) ?_
  refine gp_int 2 kp_X4_26 (sh30 _) (sh30 _) rfl rfl (Nat.le_of_ble_eq_true rfl) dX4_forget_2 ?_
  exact ga_vret dX4_forget_5 rfl (fun _ _ q => q)
set_option maxRecDepth 100000 in
set_option maxHeartbeats 4000000 in
theorem c_X3_clear {l : Launch} {G : gt_G} {n : Nat} {w : gt_W}  : gt_D l G yX3_clear cX3_clear 1 none 1 n [.ref 114] w (fun r w' => r = none ∧ (∀ a, a ≠ 114 → w' a = w a) ∧ w' 114 0 = nI 0 ∧ w' 114 1 = nI 0 ∧ w' 114 2 = nI 0) := by
  refine gt_D_of (own := RX3) (nm := "clear") rfl rfl (by decide +kernel) (Nat.le_of_ble_eq_true rfl) ?_
  show gt_A _ _ _ _ _ _ _ _ _ _ _ [(0, .ref 114)] _ _
  refine ga_aload_n 0 dX3_clear_0 rfl ?_
  refine ga_iconst (nI 0) dX3_clear_1 (by decide) ?_
  refine gp_int 0 kp_X3_36 (sh114 _) (sh114 _) rfl rfl (Nat.le_of_ble_eq_true rfl) dX3_clear_2 ?_
  refine ga_aload_n 0 dX3_clear_5 rfl ?_
  refine ga_iconst (nI 0) dX3_clear_6 (by decide) ?_
  refine gp_int 1 kp_X3_40 (sh114 _) (sh114 _) rfl rfl (Nat.le_of_ble_eq_true rfl) dX3_clear_7 ?_
  refine ga_aload_n 0 dX3_clear_10 rfl ?_
  refine ga_iconst (nI 0) dX3_clear_11 (by decide) ?_
  refine gp_int 2 kp_X3_43 (sh114 _) (sh114 _) rfl rfl (Nat.le_of_ble_eq_true rfl) dX3_clear_12 ?_
  exact gd_vret dX3_clear_15 ⟨rfl, fun a h => by rw [gt_wr_ne _ _ h, gt_wr_ne _ _ h, gt_wr_ne _ _ h], by rw [gt_wr_eq, upd_ne _ _ (by decide), gt_wr_eq, upd_ne _ _ (by decide), gt_wr_eq, upd_eq], by rw [gt_wr_eq, upd_ne _ _ (by decide), gt_wr_eq, upd_eq], by rw [gt_wr_eq, upd_eq]⟩
