/-- the greatest of the first n, at least 0 -/
def gx_mx (f : Nat → Nat) : Nat → Nat
  | 0 => 0
  | k + 1 => max (gx_mx f k) (f k)
theorem gx_mx_le {f : Nat → Nat} {b : Nat} : ∀ n, (∀ k, k < n → f k ≤ b) → gx_mx f n ≤ b
  | 0, _ => Nat.zero_le _
  | n + 1, h => Nat.max_le.mpr ⟨gx_mx_le n (fun k hk => h k (by omega)), h n (by omega)⟩
theorem gx_mx_ge {f : Nat → Nat} : ∀ n k, k < n → f k ≤ gx_mx f n
  | 0, k, h => by omega
  | n + 1, k, h => by
    show f k ≤ max (gx_mx f n) (f n)
    rcases Nat.lt_or_ge k n with q | q
    · exact Nat.le_trans (gx_mx_ge n k q) (Nat.le_max_left _ _)
    · rw [show k = n by omega]; exact Nat.le_max_right _ _
theorem gx_maxN {a b : Nat} (ha : a < 2 ^ 30) (hb : b < 2 ^ 30) : (if nI a < nI b then nI b else nI a) = nI (max a b) := by
  by_cases q : a < b
  · rw [if_pos (nI_lt q (by omega)), Nat.max_eq_right (by omega)]
  · rw [if_neg (nI_nlt (by omega) (by omega)), Nat.max_eq_left (by omega)]
/-- the marks behind n hours are so -/
abbrev gx_mso (K V Q : gx_K) (n : Nat) : Prop := ∀ i, i < Q 0 0 → Q 2 i = n → gx_sea K V (Q 1 i) = Q 3 i
/-- what is seen fits a fall of g -/
abbrev gx_gut (Q : gx_K) (g : Nat) : Prop := ∀ i, i < Q 0 1 → Q 4 i - g * Q 5 i = Q 6 i
set_option maxRecDepth 100000 in
set_option maxHeartbeats 4000000 in
theorem c_X3_lastMark {l : Launch} {G : gt_G} {n : Nat} {w : gt_W} {K Q : gx_K} (hQ : gx_No w Q) (qw : gx_QW K Q) : gt_C l G yX3_lastMark cX3_lastMark 3 (some .int) 1 0 0 n [.ref 114] (gt_enc w) (some (.int (nI (gx_mx (Q 2) (Q 0 0))))) (gt_enc (w)) := by
  refine gt_C_of (own := RX3) (nm := "lastMark") rfl rfl (by decide +kernel) (Nat.le_of_ble_eq_true rfl) ?_
  show gt_A _ _ _ _ _ _ _ _ _ _ _ [(0, .ref 114)] _ _
  refine ga_iconst (nI 0) dX3_lastMark_0 (by decide) ?_
  refine gs_istore_n [(0, _), (1, _)] dX3_lastMark_1 (by decide) rfl rfl ?_
  refine ga_iconst (nI 0) dX3_lastMark_2 (by decide) ?_
  refine gs_istore_n [(0, _), (1, _), (2, _)] dX3_lastMark_3 (by decide) rfl rfl ?_
  have loop : ∀ k t, t + k = Q 0 0 → gt_A l G RX3 "lastMark" cX3_lastMark 3 (some .int) (gt_rm 1 0 0) (gt_Z G (n + 0) 0 0 (some (.int (nI (gx_mx (Q 2) (Q 0 0))))) (gt_enc (w))) (n, 0, 0) 4 [(0, .ref 114), (1, .int (nI (gx_mx (Q 2) t))), (2, .int (nI t))] [] (gt_enc w) := by
    intro k
    induction k with
    | zero =>
      intro t ht
      have et : t = Q 0 0 := by omega
      refine ga_iload_n 2 dX3_lastMark_4 rfl ?_
      refine ga_aload_n 0 dX3_lastMark_5 rfl ?_
      refine ga_get kf_X3_36 (sh114 _) (gv hQ.1.1) dX3_lastMark_6 ?_
      refine ga_icmp_ge 29 dX3_lastMark_9 (by decide) (fun c_9 => ?_) (fun c_9 => absurd (nI_le (by omega) (by have := qw.1.1; omega)) c_9)
      refine ga_iload_n 1 dX3_lastMark_29 rfl ?_
      exact ga_iret dX3_lastMark_30 (gv (by rw [et])) rfl
    | succ k ih =>
      intro t ht
      have hb := (qw.2.1 t (by omega)).2.2.1
      have hb2 := gx_mx_le (f := Q 2) (b := 20) t (fun k hk => (qw.2.1 k (by omega)).2.2.1)
      refine ga_iload_n 2 dX3_lastMark_4 rfl ?_
      refine ga_aload_n 0 dX3_lastMark_5 rfl ?_
      refine ga_get kf_X3_36 (sh114 _) (gv hQ.1.1) dX3_lastMark_6 ?_
      refine ga_icmp_ge 29 dX3_lastMark_9 (by decide) (fun c_9 => absurd c_9 (nI_ge (by omega) (by have := qw.1.1; omega))) (fun c_9 => ?_)
      refine ga_iload_n 1 dX3_lastMark_12 rfl ?_
      refine ga_aload_n 0 dX3_lastMark_13 rfl ?_
      refine ga_get kf_X3_15 (sh114 _) rfl dX3_lastMark_14 ?_
      refine ga_iload_n 2 dX3_lastMark_17 rfl ?_
      refine gl_Q2 hQ qw (by omega) dX3_lastMark_18 ?_
      refine ga_max km_X3_47 kmath_max (gt_room0 (by decide)) (Nat.le_of_ble_eq_true rfl) dX3_lastMark_19 ?_
      refine gs_istore_n [(0, _), (1, _), (2, _)] dX3_lastMark_22 (by decide) rfl rfl ?_
      refine gs_iincN 2 1 [(0, _), (1, _), (2, _)] dX3_lastMark_23 rfl (by decide) (by decide) rfl rfl ?_
      refine ga_goto 4 dX3_lastMark_26 (by decide) ?_
      have h9 := ih (t + 1) (by omega)
      rw [show gx_mx (Q 2) (t + 1) = max (gx_mx (Q 2) t) (Q 2 t) from rfl, ← gx_maxN (by omega) (by omega)] at h9
      exact h9
  exact loop (Q 0 0) 0 (by omega)
set_option maxRecDepth 100000 in
set_option maxHeartbeats 4000000 in
theorem c_X3_marksAreSo {l : Launch} {G : gt_G} {n : Nat} {w : gt_W} {s c : Nat} {K V : gx_K} {m : Int32} {Q : gx_K} {N : Nat} (hc : gt_isC c) (hK : gx_Co w c K) (kw : gx_KW K) (hs : gt_isS s) (hV : gx_St w s K V m) (vw : gx_VW K V) (hQ : gx_No w Q) (qw : gx_QW K Q) (hN : N < 2 ^ 30) : gt_C l G yX3_marksAreSo cX3_marksAreSo 5 (some .boolean) 3 0 0 n [.ref 114, .int (nI N), .ref c, .ref s] (gt_enc w) (some (.int (if gx_mso K V Q N then nI 1 else nI 0))) (gt_enc (w)) := by
  refine gt_C_of (own := RX3) (nm := "marksAreSo") rfl rfl (by decide +kernel) (Nat.le_of_ble_eq_true rfl) ?_
  show gt_A _ _ _ _ _ _ _ _ _ _ _ [(0, .ref 114), (1, .int (nI N)), (2, .ref c), (3, .ref s)] _ _
  refine ga_iconst (nI 0) dX3_marksAreSo_0 (by decide) ?_
  refine gs_istore [(0, _), (1, _), (2, _), (3, _), (4, _)] dX3_marksAreSo_1 (by decide) rfl rfl ?_
  have loop : ∀ k t, t + k = Q 0 0 → (∀ i, i < t → Q 2 i = N → gx_sea K V (Q 1 i) = Q 3 i) → gt_A l G RX3 "marksAreSo" cX3_marksAreSo 5 (some .boolean) (gt_rm 3 0 0) (gt_Z G (n + 0) 0 0 (some (.int (if gx_mso K V Q N then nI 1 else nI 0))) (gt_enc (w))) (n, 0, 0) 3 [(0, .ref 114), (1, .int (nI N)), (2, .ref c), (3, .ref s), (4, .int (nI t))] [] (gt_enc w) := by
    intro k
    induction k with
    | zero =>
      intro t ht ho
      have et : t = Q 0 0 := by omega
      refine ga_iload 4 dX3_marksAreSo_3 rfl ?_
      refine ga_aload_n 0 dX3_marksAreSo_5 rfl ?_
      refine ga_get kf_X3_36 (sh114 _) (gv hQ.1.1) dX3_marksAreSo_6 ?_
      refine ga_icmp_ge 53 dX3_marksAreSo_9 (by decide) (fun c_9 => ?_) (fun c_9 => absurd (nI_le (by omega) (by have := qw.1.1; omega)) c_9)
      refine ga_iconst (nI 1) dX3_marksAreSo_53 (by decide) ?_
      exact ga_zret dX3_marksAreSo_54 (by decide) (gv (if_pos (fun i hi => ho i (by omega)))) rfl
    | succ k ih =>
      intro t ht ho
      refine ga_iload 4 dX3_marksAreSo_3 rfl ?_
      refine ga_aload_n 0 dX3_marksAreSo_5 rfl ?_
      refine ga_get kf_X3_36 (sh114 _) (gv hQ.1.1) dX3_marksAreSo_6 ?_
      refine ga_icmp_ge 53 dX3_marksAreSo_9 (by decide) (fun c_9 => absurd c_9 (nI_ge (by omega) (by have := qw.1.1; omega))) (fun c_9 => ?_)
      refine ga_aload_n 0 dX3_marksAreSo_12 rfl ?_
      refine ga_get kf_X3_15 (sh114 _) rfl dX3_marksAreSo_13 ?_
      refine ga_iload 4 dX3_marksAreSo_16 rfl ?_
      refine gl_Q2 hQ qw (by omega) dX3_marksAreSo_18 ?_
      refine ga_iload_n 1 dX3_marksAreSo_19 rfl ?_
      refine ga_icmp_ne 47 dX3_marksAreSo_20 (by decide) (fun c_20 => ?_) (fun c_20 => ?_)
      · refine gs_iincN 4 1 [(0, _), (1, _), (2, _), (3, _), (4, _)] dX3_marksAreSo_47 rfl (by decide) (by decide) rfl rfl ?_
        refine ga_goto 3 dX3_marksAreSo_50 (by decide) ?_
        refine ih (t + 1) (by omega) (fun i hi hn => ?_)
        by_cases e : i = t
        · subst e
          have hb1 := (qw.2.1 i (by omega)).2.2.1
          have hb2 := (qw.2.1 i (by omega)).2.2.2
          have hb3 := gx_sea_le kw vw (Q 1 i)
          first | exact absurd (by rw [hn]) c_20 | exact (nI_eq (by omega) (by omega)).mp c_42
        · exact ho i (by omega) hn
      · refine ga_aload_n 3 dX3_marksAreSo_23 rfl ?_
        refine ga_aload_n 2 dX3_marksAreSo_24 rfl ?_
        refine ga_aload_n 0 dX3_marksAreSo_25 rfl ?_
        refine ga_get kf_X3_9 (sh114 _) rfl dX3_marksAreSo_26 ?_
        refine ga_iload 4 dX3_marksAreSo_29 rfl ?_
        refine gl_Q1 hQ qw (by omega) dX3_marksAreSo_31 ?_
        refine ga_V2 km_X3_53 kv_X8_seaAt (c_X8_seaAt hc hK kw hs hV vw (by have := (qw.2.1 t (by omega)).1; have := kw.1; omega)) (shS hs _) rfl rfl (gt_rc0 (by decide)) (Nat.le_of_ble_eq_true rfl) dX3_marksAreSo_32 ?_
        refine ga_aload_n 0 dX3_marksAreSo_35 rfl ?_
        refine ga_get kf_X3_18 (sh114 _) rfl dX3_marksAreSo_36 ?_
        refine ga_iload 4 dX3_marksAreSo_39 rfl ?_
        refine gl_Q3 hQ qw (by omega) dX3_marksAreSo_41 ?_
        refine ga_icmp_eq 47 dX3_marksAreSo_42 (by decide) (fun c_42 => ?_) (fun c_42 => ?_)
        · refine gs_iincN 4 1 [(0, _), (1, _), (2, _), (3, _), (4, _)] dX3_marksAreSo_47 rfl (by decide) (by decide) rfl rfl ?_
          refine ga_goto 3 dX3_marksAreSo_50 (by decide) ?_
          refine ih (t + 1) (by omega) (fun i hi hn => ?_)
          by_cases e : i = t
          · subst e
            have hb1 := (qw.2.1 i (by omega)).2.2.1
            have hb2 := (qw.2.1 i (by omega)).2.2.2
            have hb3 := gx_sea_le kw vw (Q 1 i)
            first | exact absurd (by rw [hn]) c_20 | exact (nI_eq (by omega) (by omega)).mp c_42
          · exact ho i (by omega) hn
        · refine ga_iconst (nI 0) dX3_marksAreSo_45 (by decide) ?_
          exact ga_zret dX3_marksAreSo_46 (by decide) (gv (if_neg (fun q => c_42 (by rw [q t (by omega) ((nI_eq (by have := (qw.2.1 t (by omega)).2.2.1; omega) (by omega)).mp c_20)])))) rfl
  exact loop (Q 0 0) 0 (by omega) (fun i hi => by omega)
set_option maxRecDepth 100000 in
set_option maxHeartbeats 4000000 in
theorem c_X3_seenIsSo {l : Launch} {G : gt_G} {n : Nat} {w : gt_W} {K Q : gx_K} {g : Nat} (hQ : gx_No w Q) (qw : gx_QW K Q) (hg : g ≤ 20) : gt_C l G yX3_seenIsSo cX3_seenIsSo 3 (some .boolean) 1 0 0 n [.ref 114, .int (nI g)] (gt_enc w) (some (.int (if gx_gut Q g then nI 1 else nI 0))) (gt_enc (w)) := by
  refine gt_C_of (own := RX3) (nm := "seenIsSo") rfl rfl (by decide +kernel) (Nat.le_of_ble_eq_true rfl) ?_
  show gt_A _ _ _ _ _ _ _ _ _ _ _ [(0, .ref 114), (1, .int (nI g))] _ _
  refine ga_iconst (nI 0) dX3_seenIsSo_0 (by decide) ?_
  refine gs_istore_n [(0, _), (1, _), (2, _)] dX3_seenIsSo_1 (by decide) rfl rfl ?_
  have loop : ∀ k t, t + k = Q 0 1 → (∀ i, i < t → Q 4 i - g * Q 5 i = Q 6 i) → gt_A l G RX3 "seenIsSo" cX3_seenIsSo 3 (some .boolean) (gt_rm 1 0 0) (gt_Z G (n + 0) 0 0 (some (.int (if gx_gut Q g then nI 1 else nI 0))) (gt_enc (w))) (n, 0, 0) 2 [(0, .ref 114), (1, .int (nI g)), (2, .int (nI t))] [] (gt_enc w) := by
    intro k
    induction k with
    | zero =>
      intro t ht ho
      have et : t = Q 0 1 := by omega
      refine ga_iload_n 2 dX3_seenIsSo_2 rfl ?_
      refine ga_aload_n 0 dX3_seenIsSo_3 rfl ?_
      refine ga_get kf_X3_40 (sh114 _) (gv hQ.1.2.1) dX3_seenIsSo_4 ?_
      refine ga_icmp_ge 46 dX3_seenIsSo_7 (by decide) (fun c_7 => ?_) (fun c_7 => absurd (nI_le (by omega) (by have := qw.1.2.1; omega)) c_7)
      refine ga_iconst (nI 1) dX3_seenIsSo_46 (by decide) ?_
      exact ga_zret dX3_seenIsSo_47 (by decide) (gv (if_pos (fun i hi => ho i (by omega)))) rfl
    | succ k ih =>
      intro t ht ho
      obtain ⟨hb1, hb2, hb3⟩ := qw.2.2.1 t (by omega)
      have hb4 : g * Q 5 t ≤ 20 * 9 := Nat.mul_le_mul hg hb2
      refine ga_iload_n 2 dX3_seenIsSo_2 rfl ?_
      refine ga_aload_n 0 dX3_seenIsSo_3 rfl ?_
      refine ga_get kf_X3_40 (sh114 _) (gv hQ.1.2.1) dX3_seenIsSo_4 ?_
      refine ga_icmp_ge 46 dX3_seenIsSo_7 (by decide) (fun c_7 => absurd c_7 (nI_ge (by omega) (by have := qw.1.2.1; omega))) (fun c_7 => ?_)
      refine ga_iconst (nI 0) dX3_seenIsSo_10 (by decide) ?_
      refine ga_aload_n 0 dX3_seenIsSo_11 rfl ?_
      refine ga_get kf_X3_21 (sh114 _) rfl dX3_seenIsSo_12 ?_
      refine ga_iload_n 2 dX3_seenIsSo_15 rfl ?_
      refine gl_Q4 hQ qw (by omega) dX3_seenIsSo_16 ?_
      refine ga_iload_n 1 dX3_seenIsSo_17 rfl ?_
      refine ga_aload_n 0 dX3_seenIsSo_18 rfl ?_
      refine ga_get kf_X3_24 (sh114 _) rfl dX3_seenIsSo_19 ?_
      refine ga_iload_n 2 dX3_seenIsSo_22 rfl ?_
      refine gl_Q5 hQ qw (by omega) dX3_seenIsSo_23 ?_
      refine ga_imul dX3_seenIsSo_24 ?_
      refine ga_isub dX3_seenIsSo_25 ?_
      refine ga_max km_X3_47 kmath_max (gt_room0 (by decide)) (Nat.le_of_ble_eq_true rfl) dX3_seenIsSo_26 ?_
      refine ga_top (nI (Q 4 t - g * Q 5 t)) (by rw [pk_mul]; exact gx_max0 (by omega) (by omega)) ?_
      refine ga_aload_n 0 dX3_seenIsSo_29 rfl ?_
      refine ga_get kf_X3_27 (sh114 _) rfl dX3_seenIsSo_30 ?_
      refine ga_iload_n 2 dX3_seenIsSo_33 rfl ?_
      refine gl_Q6 hQ qw (by omega) dX3_seenIsSo_34 ?_
      refine ga_icmp_eq 40 dX3_seenIsSo_35 (by decide) (fun c_35 => ?_) (fun c_35 => ?_)
      · refine gs_iincN 2 1 [(0, _), (1, _), (2, _)] dX3_seenIsSo_40 rfl (by decide) (by decide) rfl rfl ?_
        refine ga_goto 2 dX3_seenIsSo_43 (by decide) ?_
        refine ih (t + 1) (by omega) (fun i hi => ?_)
        by_cases e : i = t
        · subst e; exact (nI_eq (by omega) (by omega)).mp c_35
        · exact ho i (by omega)
      · refine ga_iconst (nI 0) dX3_seenIsSo_38 (by decide) ?_
        exact ga_zret dX3_seenIsSo_39 (by decide) (gv (if_neg (fun q => c_35 (by rw [q t (by omega)])))) rfl
  exact loop (Q 0 1) 0 (by omega) (fun i hi => by omega)
set_option maxRecDepth 100000 in
set_option maxHeartbeats 4000000 in
theorem c_X3_guts {l : Launch} {G : gt_G} {n : Nat} {w : gt_W} {K Q : gx_K} (hQ : gx_No w Q) (qw : gx_QW K Q) : gt_C l G yX3_guts cX3_guts 3 (some .int) 2 0 0 n [.ref 114] (gt_enc w) (some (.int (gx_set (fun g => 1 ≤ g ∧ gx_gut Q g) 21))) (gt_enc (w)) := by
  refine gt_C_of (own := RX3) (nm := "guts") rfl rfl (by decide +kernel) (Nat.le_of_ble_eq_true rfl) ?_
  show gt_A _ _ _ _ _ _ _ _ _ _ _ [(0, .ref 114)] _ _
  refine ga_iconst (nI 0) dX3_guts_0 (by decide) ?_
  refine gs_istore_n [(0, _), (1, _)] dX3_guts_1 (by decide) rfl rfl ?_
  refine ga_iconst (nI 1) dX3_guts_2 (by decide) ?_
  refine gs_istore_n [(0, _), (1, _), (2, _)] dX3_guts_3 (by decide) rfl rfl ?_
  have loop : ∀ k t, t + k = 21 → 1 ≤ t → gt_A l G RX3 "guts" cX3_guts 3 (some .int) (gt_rm 2 0 0) (gt_Z G (n + 0) 0 0 (some (.int (gx_set (fun g => 1 ≤ g ∧ gx_gut Q g) 21))) (gt_enc (w))) (n, 0, 0) 4 [(0, .ref 114), (1, .int (gx_set (fun g => 1 ≤ g ∧ gx_gut Q g) t)), (2, .int (nI t))] [] (gt_enc w) := by
    intro k
    induction k with
    | zero =>
      intro t ht h1
      have et : t = 21 := by omega
      refine ga_iload_n 2 dX3_guts_4 rfl ?_
      refine ga_bipush (nI 20) dX3_guts_5 (by decide) ?_
      refine ga_icmp_gt 30 dX3_guts_7 (by decide) (fun c_7 => ?_) (fun c_7 => absurd (by rw [et]; decide) c_7)
      refine ga_iload_n 1 dX3_guts_30 rfl ?_
      exact ga_iret dX3_guts_31 (gv (by rw [et])) rfl
    | succ k ih =>
      intro t ht h1
      refine ga_iload_n 2 dX3_guts_4 rfl ?_
      refine ga_bipush (nI 20) dX3_guts_5 (by decide) ?_
      refine ga_icmp_gt 30 dX3_guts_7 (by decide) (fun c_7 => absurd c_7 (nI_nlt (by omega) (by omega))) (fun c_7 => ?_)
      refine ga_aload_n 0 dX3_guts_10 rfl ?_
      refine ga_iload_n 2 dX3_guts_11 rfl ?_
      refine ga_V1 km_X3_59 kv_X3_seenIsSo (c_X3_seenIsSo hQ qw (by omega)) (sh114 _) rfl rfl (gt_rc0 (by decide)) (Nat.le_of_ble_eq_true rfl) dX3_guts_12 ?_
      refine ga_if_eq 24 dX3_guts_15 (by decide) (fun c_15 => ?_) (fun c_15 => ?_)
      · refine gs_iincN 2 1 [(0, _), (1, _), (2, _)] dX3_guts_24 rfl (by decide) (by decide) rfl rfl ?_
        refine ga_goto 4 dX3_guts_27 (by decide) ?_
        have h9 := ih (t + 1) (by omega) (by omega)
        by_cases hq : gx_gut Q t
        · rw [gx_set_t (P := fun g => 1 ≤ g ∧ gx_gut Q g) ⟨h1, hq⟩] at h9; first | exact h9 | exact absurd c_15 (by rw [if_pos hq]; decide)
        · rw [gx_set_f (P := fun g => 1 ≤ g ∧ gx_gut Q g) (fun q => hq q.2)] at h9; first | exact h9 | exact absurd (by rw [if_neg hq]; decide) c_15
      · refine ga_iload_n 1 dX3_guts_18 rfl ?_
        refine ga_iconst (nI 1) dX3_guts_19 (by decide) ?_
        refine ga_iload_n 2 dX3_guts_20 rfl ?_
        refine ga_ishl dX3_guts_21 ?_
        refine ga_ior dX3_guts_22 ?_
        refine gs_istore_n [(0, _), (1, _), (2, _)] dX3_guts_23 (by decide) rfl rfl ?_
        refine gs_iincN 2 1 [(0, _), (1, _), (2, _)] dX3_guts_24 rfl (by decide) (by decide) rfl rfl ?_
        refine ga_goto 4 dX3_guts_27 (by decide) ?_
        have h9 := ih (t + 1) (by omega) (by omega)
        by_cases hq : gx_gut Q t
        · rw [gx_set_t (P := fun g => 1 ≤ g ∧ gx_gut Q g) ⟨h1, hq⟩] at h9; first | exact h9 | exact absurd c_15 (by rw [if_pos hq]; decide)
        · rw [gx_set_f (P := fun g => 1 ≤ g ∧ gx_gut Q g) (fun q => hq q.2)] at h9; first | exact h9 | exact absurd (by rw [if_neg hq]; decide) c_15
  exact loop 20 1 (by omega) (by omega)
set_option maxRecDepth 100000 in
set_option maxHeartbeats 4000000 in
theorem c_X3_firstWrong {l : Launch} {G : gt_G} {n : Nat} {w : gt_W} {s c : Nat} {K V : gx_K} {m : Int32} {Q : gx_K} (hc : gt_isC c) (hK : gx_Co w c K) (kw : gx_KW K) (hs : gt_isS s) (hV : gx_St w s K V m) (vw : gx_VW K V) (hQ : gx_No w Q) (qw : gx_QW K Q) : gt_C l G yX3_firstWrong cX3_firstWrong 4 (some .int) 3 0 0 n [.ref 114, .ref c, .ref s] (gt_enc w) (some (.int (gx_first (fun i => ¬ gx_sea K V (Q 7 i) = Q 8 i) 0 (Q 0 2)))) (gt_enc (w)) := by
  refine gt_C_of (own := RX3) (nm := "firstWrong") rfl rfl (by decide +kernel) (Nat.le_of_ble_eq_true rfl) ?_
  show gt_A _ _ _ _ _ _ _ _ _ _ _ [(0, .ref 114), (1, .ref c), (2, .ref s)] _ _
  refine ga_iconst (nI 0) dX3_firstWrong_0 (by decide) ?_
  refine gs_istore_n [(0, _), (1, _), (2, _), (3, _)] dX3_firstWrong_1 (by decide) rfl rfl ?_
  have loop : ∀ k t, t + k = Q 0 2 → gx_first (fun i => ¬ gx_sea K V (Q 7 i) = Q 8 i) 0 (Q 0 2) = gx_first (fun i => ¬ gx_sea K V (Q 7 i) = Q 8 i) t k → gt_A l G RX3 "firstWrong" cX3_firstWrong 4 (some .int) (gt_rm 3 0 0) (gt_Z G (n + 0) 0 0 (some (.int (gx_first (fun i => ¬ gx_sea K V (Q 7 i) = Q 8 i) 0 (Q 0 2)))) (gt_enc (w))) (n, 0, 0) 2 [(0, .ref 114), (1, .ref c), (2, .ref s), (3, .int (nI t))] [] (gt_enc w) := by
    intro k
    induction k with
    | zero =>
      intro t ht hp
      have et : t = Q 0 2 := by omega
      refine ga_iload_n 3 dX3_firstWrong_2 rfl ?_
      refine ga_aload_n 0 dX3_firstWrong_3 rfl ?_
      refine ga_get kf_X3_43 (sh114 _) (gv hQ.1.2.2) dX3_firstWrong_4 ?_
      refine ga_icmp_ge 38 dX3_firstWrong_7 (by decide) (fun c_7 => ?_) (fun c_7 => absurd (nI_le (by omega) (by have := qw.1.2.2; omega)) c_7)
      refine ga_iconst ((-1)) dX3_firstWrong_38 (by decide) ?_
      exact ga_iret dX3_firstWrong_39 (gv (by rw [hp]; rfl)) rfl
    | succ k ih =>
      intro t ht hp
      obtain ⟨hb1, hb2⟩ := qw.2.2.2 t (by omega)
      have hb3 := gx_sea_le kw vw (Q 7 t)
      refine ga_iload_n 3 dX3_firstWrong_2 rfl ?_
      refine ga_aload_n 0 dX3_firstWrong_3 rfl ?_
      refine ga_get kf_X3_43 (sh114 _) (gv hQ.1.2.2) dX3_firstWrong_4 ?_
      refine ga_icmp_ge 38 dX3_firstWrong_7 (by decide) (fun c_7 => absurd c_7 (nI_ge (by omega) (by have := qw.1.2.2; omega))) (fun c_7 => ?_)
      refine ga_aload_n 2 dX3_firstWrong_10 rfl ?_
      refine ga_aload_n 1 dX3_firstWrong_11 rfl ?_
      refine ga_aload_n 0 dX3_firstWrong_12 rfl ?_
      refine ga_get kf_X3_30 (sh114 _) rfl dX3_firstWrong_13 ?_
      refine ga_iload_n 3 dX3_firstWrong_16 rfl ?_
      refine gl_Q7 hQ qw (by omega) dX3_firstWrong_17 ?_
      refine ga_V2 km_X3_53 kv_X8_seaAt (c_X8_seaAt hc hK kw hs hV vw (by have := kw.1; omega)) (shS hs _) rfl rfl (gt_rc0 (by decide)) (Nat.le_of_ble_eq_true rfl) dX3_firstWrong_18 ?_
      refine ga_aload_n 0 dX3_firstWrong_21 rfl ?_
      refine ga_get kf_X3_33 (sh114 _) rfl dX3_firstWrong_22 ?_
      refine ga_iload_n 3 dX3_firstWrong_25 rfl ?_
      refine gl_Q8 hQ qw (by omega) dX3_firstWrong_26 ?_
      refine ga_icmp_eq 32 dX3_firstWrong_27 (by decide) (fun c_27 => ?_) (fun c_27 => ?_)
      · refine gs_iincN 3 1 [(0, _), (1, _), (2, _), (3, _)] dX3_firstWrong_32 rfl (by decide) (by decide) rfl rfl ?_
        refine ga_goto 2 dX3_firstWrong_35 (by decide) ?_
        exact ih (t + 1) (by omega) (by rw [hp]; exact if_neg (fun q => q ((nI_eq (by omega) (by omega)).mp c_27)))
      · refine ga_iload_n 3 dX3_firstWrong_30 rfl ?_
        exact ga_iret dX3_firstWrong_31 (gv (by rw [hp]; exact if_pos (fun q => c_27 (by rw [q])))) rfl
  exact loop (Q 0 2) 0 (by omega) rfl
