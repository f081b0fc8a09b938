def gx_bf (K V : gx_K) (x t : Nat) : Nat := gx_bears (V 1 t) (K 3 t) (K 2 t) x
theorem gx_bf_le {K V : gx_K} (vw : gx_VW K V) (x : Nat) {t : Nat} (ht : t < K 0 1) : gx_bf K V x t ≤ 99 := by
  have := vw.2.1 t ht
  unfold gx_bf gx_bears
  omega
/-- SLOPE between k and k + 1 -/
def gx_un (K V : gx_K) (k : Nat) : Nat := gx_dist (gx_sea K V k) (gx_sea K V (k + 1))
theorem gx_un_le {K V : gx_K} (kw : gx_KW K) (vw : gx_VW K V) (k : Nat) : gx_un K V k ≤ 594 := by
  have h1 := gx_sea_le kw vw k
  have h2 := gx_sea_le kw vw (k + 1)
  unfold gx_un gx_dist
  split <;> omega
theorem gx_argp_t {f : Nat → Nat} {k : Nat} (h : (if gx_argp f k = 0 then 0 else f (gx_argp f k - 1)) < f k) : gx_argp f (k + 1) = k + 1 := if_pos h
theorem gx_argp_f {f : Nat → Nat} {k : Nat} (h : ¬ (if gx_argp f k = 0 then 0 else f (gx_argp f k - 1)) < f k) : gx_argp f (k + 1) = gx_argp f k := if_neg h
theorem gx_arg_t {f : Nat → Nat} {k : Nat} (h : gx_arg f k = 0 ∨ f (gx_arg f k - 1) < f k) : gx_arg f (k + 1) = k + 1 := if_pos h
theorem gx_arg_f {f : Nat → Nat} {k : Nat} (h : ¬ (gx_arg f k = 0 ∨ f (gx_arg f k - 1) < f k)) : gx_arg f (k + 1) = gx_arg f k := if_neg h
theorem gx_argp_b {f : Nat → Nat} {b n : Nat} (h : ∀ k, k < n → f k ≤ b) : (if gx_argp f n = 0 then 0 else f (gx_argp f n - 1)) ≤ b := by
  have := gx_argp_le f n
  by_cases q : gx_argp f n = 0
  · rw [if_pos q]; exact Nat.zero_le _
  · rw [if_neg q]; exact h _ (by omega)
/-- the steepest place, the SLOPE -/
def gx_steep (K V : gx_K) : Nat := gx_arg (gx_un K V) (K 0 0 - 1)
def gx_slope (K V : gx_K) : Nat := if gx_steep K V = 0 then 0 else gx_un K V (gx_steep K V - 1)
theorem gx_lt_m1 (a : Nat) (ha : a < 2 ^ 31) : ¬ nI a ≤ -1 := fun q => absurd (Int32.lt_of_le_of_lt q (by decide : (-1 : Int32) < 0)) (nI_pos ha)
set_option maxRecDepth 100000 in
set_option maxHeartbeats 4000000 in
theorem c_X8_strongest {l : Launch} {G : gt_G} {n : Nat} {w : gt_W} {s c : Nat} {K V : gx_K} {m : Int32} {x : Nat} (hc : gt_isC c) (hK : gx_Co w c K) (kw : gx_KW K) (hs : gt_isS s) (hV : gx_St w s K V m) (vw : gx_VW K V) (hx : x < 11) : gt_C l G yX8_strongest cX8_strongest 7 (some .int) 2 0 0 n [.ref s, .ref c, .int (nI x)] (gt_enc w) (some (.int (gx_seat (gx_argp (gx_bf K V x) (K 0 1))))) (gt_enc (w)) := by
  refine gt_C_of (own := RX8) (nm := "strongest") rfl rfl (by decide +kernel) (Nat.le_of_ble_eq_true rfl) ?_
  show gt_A _ _ _ _ _ _ _ _ _ _ _ [(0, .ref s), (1, .ref c), (2, .int (nI x))] _ _
  refine ga_iconst ((-1)) dX8_strongest_0 (by decide) ?_
  refine gs_istore_n [(0, _), (1, _), (2, _), (3, _)] dX8_strongest_1 (by decide) rfl rfl ?_
  refine ga_iconst (nI 0) dX8_strongest_2 (by decide) ?_
  refine gs_istore [(0, _), (1, _), (2, _), (3, _), (4, _)] dX8_strongest_3 (by decide) rfl rfl ?_
  refine ga_iconst (nI 0) dX8_strongest_5 (by decide) ?_
  refine gs_istore [(0, _), (1, _), (2, _), (3, _), (4, _), (5, _)] dX8_strongest_6 (by decide) rfl rfl ?_
  have loop : ∀ k t, t + k = K 0 1 → gt_A l G RX8 "strongest" cX8_strongest 7 (some .int) (gt_rm 2 0 0) (gt_Z G (n + 0) 0 0 (some (.int (gx_seat (gx_argp (gx_bf K V x) (K 0 1))))) (gt_enc (w))) (n, 0, 0) 8 [(0, .ref s), (1, .ref c), (2, .int (nI x)), (3, .int (gx_seat (gx_argp (gx_bf K V x) t))), (4, .int (nI (if gx_argp (gx_bf K V x) t = 0 then 0 else gx_bf K V x (gx_argp (gx_bf K V x) t - 1)))), (5, .int (nI t))] [] (gt_enc w) := by
    intro k
    induction k with
    | zero =>
      intro t ht
      have et : t = K 0 1 := by omega
      refine ga_iload 5 dX8_strongest_8 rfl ?_
      refine ga_aload_n 1 dX8_strongest_10 rfl ?_
      refine ga_get kf_X8_85 (shC hc _) (gv hK.1.2.1) dX8_strongest_11 ?_
      refine ga_icmp_ge 53 dX8_strongest_14 (by decide) (fun c_14 => ?_) (fun c_14 => absurd (nI_le (by omega) (by have := kw.2.1; omega)) c_14)
      refine ga_iload_n 3 dX8_strongest_53 rfl ?_
      exact ga_iret dX8_strongest_54 (gv (by rw [et])) rfl
    | succ k ih =>
      intro t ht
      have hb := gx_argp_b (f := (gx_bf K V x)) (b := 99) (n := t) (fun k hk => gx_bf_le vw x (by omega))
      have hb2 := gx_bf_le vw x (t := t) (by omega)
      refine ga_iload 5 dX8_strongest_8 rfl ?_
      refine ga_aload_n 1 dX8_strongest_10 rfl ?_
      refine ga_get kf_X8_85 (shC hc _) (gv hK.1.2.1) dX8_strongest_11 ?_
      refine ga_icmp_ge 53 dX8_strongest_14 (by decide) (fun c_14 => absurd c_14 (nI_ge (by omega) (by have := kw.2.1; omega))) (fun c_14 => ?_)
      refine ga_aload_n 1 dX8_strongest_17 rfl ?_
      refine ga_iload 5 dX8_strongest_18 rfl ?_
      refine ga_aload_n 0 dX8_strongest_20 rfl ?_
      refine ga_get kf_X8_9 (shS hs _) rfl dX8_strongest_21 ?_
      refine ga_iload 5 dX8_strongest_24 rfl ?_
      refine gl_S1 hs hV kw (by omega) dX8_strongest_26 ?_
      refine ga_iload_n 2 dX8_strongest_27 rfl ?_
      refine ga_V3 km_X8_98 kv_X0_bears (c_X0_bears hc hK kw (by omega) (vw.2.1 t (by omega)) hx) (shC hc _) rfl rfl (gt_rc0 (by decide)) (Nat.le_of_ble_eq_true rfl) dX8_strongest_28 ?_
      refine gs_istore [(0, _), (1, _), (2, _), (3, _), (4, _), (5, _), (6, _)] dX8_strongest_31 (by decide) rfl rfl ?_
      refine ga_iload 6 dX8_strongest_33 rfl ?_
      refine ga_iload 4 dX8_strongest_35 rfl ?_
      refine ga_icmp_le 47 dX8_strongest_37 (by decide) (fun c_37 => ?_) (fun c_37 => ?_)
      · refine gs_iincN 5 1 [(0, _), (1, _), (2, _), (3, _), (4, _), (5, _), (6, _)] dX8_strongest_47 rfl (by decide) (by decide) rfl rfl ?_
        refine ga_goto 8 dX8_strongest_50 (by decide) ?_
        refine ga_take 6 ?_
        have h9 := ih (t + 1) (by omega)
        first | (rw [gx_argp_f (fun q => absurd (show nI (gx_bf K V x t) ≤ _ from c_37) (nI_ge q (by omega)))] at h9; exact h9) | (rw [gx_argp_t (Nat.lt_of_not_le (fun q => (show ¬ nI (gx_bf K V x t) ≤ _ from c_37) (nI_le q (by omega)))), gx_seat_s, if_neg (Nat.succ_ne_zero t), Nat.add_sub_cancel] at h9; exact h9)
      · refine ga_iload 6 dX8_strongest_40 rfl ?_
        refine gs_istore [(0, _), (1, _), (2, _), (3, _), (4, _), (5, _), (6, _)] dX8_strongest_42 (by decide) rfl rfl ?_
        refine ga_iload 5 dX8_strongest_44 rfl ?_
        refine gs_istore_n [(0, _), (1, _), (2, _), (3, _), (4, _), (5, _), (6, _)] dX8_strongest_46 (by decide) rfl rfl ?_
        refine gs_iincN 5 1 [(0, _), (1, _), (2, _), (3, _), (4, _), (5, _), (6, _)] dX8_strongest_47 rfl (by decide) (by decide) rfl rfl ?_
        refine ga_goto 8 dX8_strongest_50 (by decide) ?_
        refine ga_take 6 ?_
        have h9 := ih (t + 1) (by omega)
        first | (rw [gx_argp_f (fun q => absurd (show nI (gx_bf K V x t) ≤ _ from c_37) (nI_ge q (by omega)))] at h9; exact h9) | (rw [gx_argp_t (Nat.lt_of_not_le (fun q => (show ¬ nI (gx_bf K V x t) ≤ _ from c_37) (nI_le q (by omega)))), gx_seat_s, if_neg (Nat.succ_ne_zero t), Nat.add_sub_cancel] at h9; exact h9)
  have h0 := loop (K 0 1) 0 (by omega)
  rw [show gx_argp (gx_bf K V x) 0 = 0 from rfl, gx_seat_0, if_pos rfl] at h0
  exact h0
set_option maxRecDepth 100000 in
set_option maxHeartbeats 4000000 in
theorem c_X8_steepest {l : Launch} {G : gt_G} {n : Nat} {w : gt_W} {s c : Nat} {K V : gx_K} {m : Int32} (hc : gt_isC c) (hK : gx_Co w c K) (kw : gx_KW K) (hs : gt_isS s) (hV : gx_St w s K V m) (vw : gx_VW K V) : gt_C l G yX8_steepest cX8_steepest 6 (some .int) 4 0 0 n [.ref s, .ref c] (gt_enc w) (some (.int (gx_seat (gx_steep K V)))) (gt_enc (w)) := by
  refine gt_C_of (own := RX8) (nm := "steepest") rfl rfl (by decide +kernel) (Nat.le_of_ble_eq_true rfl) ?_
  show gt_A _ _ _ _ _ _ _ _ _ _ _ [(0, .ref s), (1, .ref c)] _ _
  refine ga_iconst ((-1)) dX8_steepest_0 (by decide) ?_
  refine gs_istore_n [(0, _), (1, _), (2, _)] dX8_steepest_1 (by decide) rfl rfl ?_
  refine ga_iconst ((-1)) dX8_steepest_2 (by decide) ?_
  refine gs_istore_n [(0, _), (1, _), (2, _), (3, _)] dX8_steepest_3 (by decide) rfl rfl ?_
  refine ga_iconst (nI 0) dX8_steepest_4 (by decide) ?_
  refine gs_istore [(0, _), (1, _), (2, _), (3, _), (4, _)] dX8_steepest_5 (by decide) rfl rfl ?_
  have loop : ∀ k t, t + k = K 0 0 - 1 → gt_A l G RX8 "steepest" cX8_steepest 6 (some .int) (gt_rm 4 0 0) (gt_Z G (n + 0) 0 0 (some (.int (gx_seat (gx_steep K V)))) (gt_enc (w))) (n, 0, 0) 7 [(0, .ref s), (1, .ref c), (2, .int (gx_seat (gx_arg (gx_un K V) t))), (3, .int (gx_seat (if gx_arg (gx_un K V) t = 0 then 0 else gx_un K V (gx_arg (gx_un K V) t - 1) + 1))), (4, .int (nI t))] [] (gt_enc w) := by
    intro k
    induction k with
    | zero =>
      intro t ht
      have et : t = K 0 0 - 1 := by omega
      have := kw.1
      refine ga_iload 4 dX8_steepest_7 rfl ?_
      refine ga_iconst (nI 1) dX8_steepest_9 (by decide) ?_
      refine ga_iadd dX8_steepest_10 ?_
      refine ga_aload_n 1 dX8_steepest_11 rfl ?_
      refine ga_get kf_X8_107 (shC hc _) (gv hK.1.1) dX8_steepest_12 ?_
      refine ga_icmp_ge 45 dX8_steepest_15 (by decide) (fun c_15 => ?_) (fun c_15 => absurd (by rw [nI_add]; exact nI_le (by omega) (by omega)) c_15)
      refine ga_iload_n 2 dX8_steepest_45 rfl ?_
      exact ga_iret dX8_steepest_46 (gv (by rw [et]; rfl)) rfl
    | succ k ih =>
      intro t ht
      have := kw.1
      have hb2 := gx_un_le kw vw t
      have hb3 := gx_arg_le (gx_un K V) t
      have hb4 := gx_un_le kw vw (gx_arg (gx_un K V) t - 1)
      refine ga_iload 4 dX8_steepest_7 rfl ?_
      refine ga_iconst (nI 1) dX8_steepest_9 (by decide) ?_
      refine ga_iadd dX8_steepest_10 ?_
      refine ga_aload_n 1 dX8_steepest_11 rfl ?_
      refine ga_get kf_X8_107 (shC hc _) (gv hK.1.1) dX8_steepest_12 ?_
      refine ga_icmp_ge 45 dX8_steepest_15 (by decide) (fun c_15 => absurd c_15 (by rw [nI_add]; exact nI_ge (by omega) (by omega))) (fun c_15 => ?_)
      refine ga_aload_n 0 dX8_steepest_18 rfl ?_
      refine ga_aload_n 1 dX8_steepest_19 rfl ?_
      refine ga_iload 4 dX8_steepest_20 rfl ?_
      refine ga_V2 km_X8_110 kv_X8_unlikeness (c_X8_unlikeness hc hK kw hs hV vw (by omega)) (shS hs _) rfl rfl (gt_rc0 (by decide)) (Nat.le_of_ble_eq_true rfl) dX8_steepest_22 ?_
      refine gs_istore [(0, _), (1, _), (2, _), (3, _), (4, _), (5, _)] dX8_steepest_25 (by decide) rfl rfl ?_
      refine ga_iload 5 dX8_steepest_27 rfl ?_
      refine ga_iload_n 3 dX8_steepest_29 rfl ?_
      refine ga_icmp_le 39 dX8_steepest_30 (by decide) (fun c_30 => ?_) (fun c_30 => ?_)
      · refine gs_iincN 4 1 [(0, _), (1, _), (2, _), (3, _), (4, _), (5, _)] dX8_steepest_39 rfl (by decide) (by decide) rfl rfl ?_
        refine ga_goto 7 dX8_steepest_42 (by decide) ?_
        refine ga_take 5 ?_
        have h9 := ih (t + 1) (by omega)
        by_cases hq : gx_arg (gx_un K V) t = 0 ∨ gx_un K V (gx_arg (gx_un K V) t - 1) < gx_un K V t
        · rw [gx_arg_t hq, gx_seat_s, if_neg (Nat.succ_ne_zero t), Nat.add_sub_cancel, gx_seat_s] at h9
          first | exact h9 | exact absurd c_30 (by
            rcases hq with q | q
            · rw [if_pos q, gx_seat_0]; exact gx_lt_m1 _ (by unfold gx_un at hb2; omega)
            · by_cases q2 : gx_arg (gx_un K V) t = 0
              · rw [if_pos q2, gx_seat_0]; exact gx_lt_m1 _ (by unfold gx_un at hb2; omega)
              · rw [if_neg q2, gx_seat_s]; exact nI_ge q (by unfold gx_un at hb2; omega))
        · rw [gx_arg_f hq] at h9
          first | exact h9 | exact absurd (by
            rw [if_neg (fun q => hq (Or.inl q)), gx_seat_s]
            exact nI_le (Nat.le_of_not_lt (fun q => hq (Or.inr q))) (by omega)) c_30
      · refine ga_iload 5 dX8_steepest_33 rfl ?_
        refine gs_istore_n [(0, _), (1, _), (2, _), (3, _), (4, _), (5, _)] dX8_steepest_35 (by decide) rfl rfl ?_
        refine ga_iload 4 dX8_steepest_36 rfl ?_
        refine gs_istore_n [(0, _), (1, _), (2, _), (3, _), (4, _), (5, _)] dX8_steepest_38 (by decide) rfl rfl ?_
        refine gs_iincN 4 1 [(0, _), (1, _), (2, _), (3, _), (4, _), (5, _)] dX8_steepest_39 rfl (by decide) (by decide) rfl rfl ?_
        refine ga_goto 7 dX8_steepest_42 (by decide) ?_
        refine ga_take 5 ?_
        have h9 := ih (t + 1) (by omega)
        by_cases hq : gx_arg (gx_un K V) t = 0 ∨ gx_un K V (gx_arg (gx_un K V) t - 1) < gx_un K V t
        · rw [gx_arg_t hq, gx_seat_s, if_neg (Nat.succ_ne_zero t), Nat.add_sub_cancel, gx_seat_s] at h9
          first | exact h9 | exact absurd c_30 (by
            rcases hq with q | q
            · rw [if_pos q, gx_seat_0]; exact gx_lt_m1 _ (by unfold gx_un at hb2; omega)
            · by_cases q2 : gx_arg (gx_un K V) t = 0
              · rw [if_pos q2, gx_seat_0]; exact gx_lt_m1 _ (by unfold gx_un at hb2; omega)
              · rw [if_neg q2, gx_seat_s]; exact nI_ge q (by unfold gx_un at hb2; omega))
        · rw [gx_arg_f hq] at h9
          first | exact h9 | exact absurd (by
            rw [if_neg (fun q => hq (Or.inl q)), gx_seat_s]
            exact nI_le (Nat.le_of_not_lt (fun q => hq (Or.inr q))) (by omega)) c_30
  have h0 := loop (K 0 0 - 1) 0 (by omega)
  rw [show gx_arg (gx_un K V) 0 = 0 from rfl, gx_seat_0, if_pos rfl, gx_seat_0] at h0
  exact h0
set_option maxRecDepth 100000 in
set_option maxHeartbeats 4000000 in
theorem c_X8_slope {l : Launch} {G : gt_G} {n : Nat} {w : gt_W} {s c : Nat} {K V : gx_K} {m : Int32} (hc : gt_isC c) (hK : gx_Co w c K) (kw : gx_KW K) (hs : gt_isS s) (hV : gx_St w s K V m) (vw : gx_VW K V) : gt_C l G yX8_slope cX8_slope 3 (some .int) 5 0 0 n [.ref s, .ref c] (gt_enc w) (some (.int (nI (gx_slope K V)))) (gt_enc (w)) := by
  refine gt_C_of (own := RX8) (nm := "slope") rfl rfl (by decide +kernel) (Nat.le_of_ble_eq_true rfl) ?_
  show gt_A _ _ _ _ _ _ _ _ _ _ _ [(0, .ref s), (1, .ref c)] _ _
  refine ga_aload_n 0 dX8_slope_0 rfl ?_
  refine ga_aload_n 1 dX8_slope_1 rfl ?_
  refine ga_V1 km_X8_113 kv_X8_steepest (c_X8_steepest hc hK kw hs hV vw) (shS hs _) rfl rfl (gt_rc0 (by decide)) (Nat.le_of_ble_eq_true rfl) dX8_slope_2 ?_
  refine gs_istore_n [(0, _), (1, _), (2, _)] dX8_slope_5 (by decide) rfl rfl ?_
  refine ga_iload_n 2 dX8_slope_6 rfl ?_
  refine ga_iconst ((-1)) dX8_slope_7 (by decide) ?_
  refine ga_icmp_ne 15 dX8_slope_8 (by decide) (fun c_8 => ?_) (fun c_8 => ?_)
  · have hz : gx_steep K V ≠ 0 := fun q => c_8 (by rw [q]; decide)
    obtain ⟨v, hv⟩ : ∃ v, gx_steep K V = v + 1 := ⟨gx_steep K V - 1, by omega⟩
    have hl9 := gx_arg_le (gx_un K V) (K 0 0 - 1)
    have hl8 : v + 1 ≤ K 0 0 - 1 := by rw [← hv]; exact hl9
    refine ga_aload_n 0 dX8_slope_15 rfl ?_
    refine ga_aload_n 1 dX8_slope_16 rfl ?_
    refine ga_iload_n 2 dX8_slope_17 rfl ?_
    refine ga_top (nI v) (by rw [hv, gx_seat_s]) ?_
    refine ga_V2 km_X8_110 kv_X8_unlikeness (c_X8_unlikeness hc hK kw hs hV vw (by omega)) (shS hs _) rfl rfl (gt_rc0 (by decide)) (Nat.le_of_ble_eq_true rfl) dX8_slope_18 ?_
    exact ga_iret dX8_slope_21 (gv (by unfold gx_slope; first | (rw [if_neg (by omega), hv, Nat.add_sub_cancel]; rfl) | (rw [if_pos ((gx_seat_m1 (by have := gx_arg_le (gx_un K V) (K 0 0 - 1); have := kw.1; show gx_arg (gx_un K V) (K 0 0 - 1) < _; omega)).mp c_8)]))) rfl
  · refine ga_iconst (nI 0) dX8_slope_11 (by decide) ?_
    refine ga_goto 21 dX8_slope_12 (by decide) ?_
    exact ga_iret dX8_slope_21 (gv (by unfold gx_slope; first | (rw [if_neg (by omega), hv, Nat.add_sub_cancel]; rfl) | (rw [if_pos ((gx_seat_m1 (by have := gx_arg_le (gx_un K V) (K 0 0 - 1); have := kw.1; show gx_arg (gx_un K V) (K 0 0 - 1) < _; omega)).mp c_8)]))) rfl
set_option maxRecDepth 100000 in
set_option maxHeartbeats 4000000 in
theorem c_X8_aground {l : Launch} {G : gt_G} {n : Nat} {w : gt_W} {s c : Nat} {K V : gx_K} {m : Int32} (hc : gt_isC c) (hK : gx_Co w c K) (kw : gx_KW K) (hs : gt_isS s) (hV : gx_St w s K V m) (vw : gx_VW K V) : gt_C l G yX8_aground cX8_aground 4 (some .int) 4 0 0 n [.ref s, .ref c] (gt_enc w) (some (.int (gx_set (fun b => gx_dep K V (V 4 b) < K 5 b) (K 0 3)))) (gt_enc (w)) := by
  refine gt_C_of (own := RX8) (nm := "aground") rfl rfl (by decide +kernel) (Nat.le_of_ble_eq_true rfl) ?_
  show gt_A _ _ _ _ _ _ _ _ _ _ _ [(0, .ref s), (1, .ref c)] _ _
  refine ga_iconst (nI 0) dX8_aground_0 (by decide) ?_
  refine gs_istore_n [(0, _), (1, _), (2, _)] dX8_aground_1 (by decide) rfl rfl ?_
  refine ga_iconst (nI 0) dX8_aground_2 (by decide) ?_
  refine gs_istore_n [(0, _), (1, _), (2, _), (3, _)] dX8_aground_3 (by decide) rfl rfl ?_
  have loop : ∀ k t, t + k = K 0 3 → gt_A l G RX8 "aground" cX8_aground 4 (some .int) (gt_rm 4 0 0) (gt_Z G (n + 0) 0 0 (some (.int (gx_set (fun b => gx_dep K V (V 4 b) < K 5 b) (K 0 3)))) (gt_enc (w))) (n, 0, 0) 4 [(0, .ref s), (1, .ref c), (2, .int (gx_set (fun b => gx_dep K V (V 4 b) < K 5 b) t)), (3, .int (nI t))] [] (gt_enc w) := by
    intro k
    induction k with
    | zero =>
      intro t ht
      have et : t = K 0 3 := by omega
      refine ga_iload_n 3 dX8_aground_4 rfl ?_
      refine ga_aload_n 1 dX8_aground_5 rfl ?_
      refine ga_get kf_X8_37 (shC hc _) (gv hK.1.2.2.2) dX8_aground_6 ?_
      refine ga_icmp_ge 44 dX8_aground_9 (by decide) (fun c_9 => ?_) (fun c_9 => absurd (nI_le (by omega) (by have := kw.2.2.2.1; omega)) c_9)
      refine ga_iload_n 2 dX8_aground_44 rfl ?_
      exact ga_iret dX8_aground_45 (gv (by rw [et])) rfl
    | succ k ih =>
      intro t ht
      have hb := gx_sea_le kw vw (V 4 t)
      have hb2 : gx_dep K V (V 4 t) ≤ 594 := by unfold gx_dep; omega
      have hb3 := kw.2.2.2.2.2.2.2.2.1 t (by omega)
      refine ga_iload_n 3 dX8_aground_4 rfl ?_
      refine ga_aload_n 1 dX8_aground_5 rfl ?_
      refine ga_get kf_X8_37 (shC hc _) (gv hK.1.2.2.2) dX8_aground_6 ?_
      refine ga_icmp_ge 44 dX8_aground_9 (by decide) (fun c_9 => absurd c_9 (nI_ge (by omega) (by have := kw.2.2.2.1; omega))) (fun c_9 => ?_)
      refine ga_aload_n 0 dX8_aground_12 rfl ?_
      refine ga_aload_n 1 dX8_aground_13 rfl ?_
      refine ga_aload_n 0 dX8_aground_14 rfl ?_
      refine ga_get kf_X8_21 (shS hs _) rfl dX8_aground_15 ?_
      refine ga_iload_n 3 dX8_aground_18 rfl ?_
      refine gl_S4 hs hV kw (by omega) dX8_aground_19 ?_
      refine ga_V2 km_X8_91 kv_X8_depthAt (c_X8_depthAt hc hK kw hs hV vw (vw.2.2.2.2 t (by omega))) (shS hs _) rfl rfl (gt_rc0 (by decide)) (Nat.le_of_ble_eq_true rfl) dX8_aground_20 ?_
      refine ga_aload_n 1 dX8_aground_23 rfl ?_
      refine ga_get kf_X8_95 (shC hc _) rfl dX8_aground_24 ?_
      refine ga_iload_n 3 dX8_aground_27 rfl ?_
      refine gl_C5 hc hK kw (by omega) dX8_aground_28 ?_
      refine ga_icmp_ge 38 dX8_aground_29 (by decide) (fun c_29 => ?_) (fun c_29 => ?_)
      · refine gs_iincN 3 1 [(0, _), (1, _), (2, _), (3, _)] dX8_aground_38 rfl (by decide) (by decide) rfl rfl ?_
        refine ga_goto 4 dX8_aground_41 (by decide) ?_
        have h9 := ih (t + 1) (by omega)
        first | (rw [gx_set_f (P := fun b => gx_dep K V (V 4 b) < K 5 b) (k := t) (fun q => absurd c_29 (nI_ge q (by omega)))] at h9; exact h9) | (rw [gx_set_t (P := fun b => gx_dep K V (V 4 b) < K 5 b) (k := t) (Nat.lt_of_not_le (fun q => c_29 (nI_le q (by omega))))] at h9; exact h9)
      · refine ga_iload_n 2 dX8_aground_32 rfl ?_
        refine ga_iconst (nI 1) dX8_aground_33 (by decide) ?_
        refine ga_iload_n 3 dX8_aground_34 rfl ?_
        refine ga_ishl dX8_aground_35 ?_
        refine ga_ior dX8_aground_36 ?_
        refine gs_istore_n [(0, _), (1, _), (2, _), (3, _)] dX8_aground_37 (by decide) rfl rfl ?_
        refine gs_iincN 3 1 [(0, _), (1, _), (2, _), (3, _)] dX8_aground_38 rfl (by decide) (by decide) rfl rfl ?_
        refine ga_goto 4 dX8_aground_41 (by decide) ?_
        have h9 := ih (t + 1) (by omega)
        first | (rw [gx_set_f (P := fun b => gx_dep K V (V 4 b) < K 5 b) (k := t) (fun q => absurd c_29 (nI_ge q (by omega)))] at h9; exact h9) | (rw [gx_set_t (P := fun b => gx_dep K V (V 4 b) < K 5 b) (k := t) (Nat.lt_of_not_le (fun q => c_29 (nI_le q (by omega))))] at h9; exact h9)
  exact loop (K 0 3) 0 (by omega)
set_option maxRecDepth 100000 in
set_option maxHeartbeats 4000000 in
theorem c_X8_arrived {l : Launch} {G : gt_G} {n : Nat} {w : gt_W} {s c : Nat} {K V : gx_K} {m : Int32} (hc : gt_isC c) (hK : gx_Co w c K) (kw : gx_KW K) (hs : gt_isS s) (hV : gx_St w s K V m) (vw : gx_VW K V) : gt_C l G yX8_arrived cX8_arrived 4 (some .int) 1 0 0 n [.ref s, .ref c] (gt_enc w) (some (.int (gx_set (fun b => V 4 b = K 7 b) (K 0 3)))) (gt_enc (w)) := by
  refine gt_C_of (own := RX8) (nm := "arrived") rfl rfl (by decide +kernel) (Nat.le_of_ble_eq_true rfl) ?_
  show gt_A _ _ _ _ _ _ _ _ _ _ _ [(0, .ref s), (1, .ref c)] _ _
  refine ga_iconst (nI 0) dX8_arrived_0 (by decide) ?_
  refine gs_istore_n [(0, _), (1, _), (2, _)] dX8_arrived_1 (by decide) rfl rfl ?_
  refine ga_iconst (nI 0) dX8_arrived_2 (by decide) ?_
  refine gs_istore_n [(0, _), (1, _), (2, _), (3, _)] dX8_arrived_3 (by decide) rfl rfl ?_
  have loop : ∀ k t, t + k = K 0 3 → gt_A l G RX8 "arrived" cX8_arrived 4 (some .int) (gt_rm 1 0 0) (gt_Z G (n + 0) 0 0 (some (.int (gx_set (fun b => V 4 b = K 7 b) (K 0 3)))) (gt_enc (w))) (n, 0, 0) 4 [(0, .ref s), (1, .ref c), (2, .int (gx_set (fun b => V 4 b = K 7 b) t)), (3, .int (nI t))] [] (gt_enc w) := by
    intro k
    induction k with
    | zero =>
      intro t ht
      have et : t = K 0 3 := by omega
      refine ga_iload_n 3 dX8_arrived_4 rfl ?_
      refine ga_aload_n 1 dX8_arrived_5 rfl ?_
      refine ga_get kf_X8_37 (shC hc _) (gv hK.1.2.2.2) dX8_arrived_6 ?_
      refine ga_icmp_ge 39 dX8_arrived_9 (by decide) (fun c_9 => ?_) (fun c_9 => absurd (nI_le (by omega) (by have := kw.2.2.2.1; omega)) c_9)
      refine ga_iload_n 2 dX8_arrived_39 rfl ?_
      exact ga_iret dX8_arrived_40 (gv (by rw [et])) rfl
    | succ k ih =>
      intro t ht
      have hb := vw.2.2.2.2 t (by omega)
      have hb2 := kw.2.2.2.2.2.2.2.2.2.2.1 t (by omega)
      have := kw.1
      refine ga_iload_n 3 dX8_arrived_4 rfl ?_
      refine ga_aload_n 1 dX8_arrived_5 rfl ?_
      refine ga_get kf_X8_37 (shC hc _) (gv hK.1.2.2.2) dX8_arrived_6 ?_
      refine ga_icmp_ge 39 dX8_arrived_9 (by decide) (fun c_9 => absurd c_9 (nI_ge (by omega) (by have := kw.2.2.2.1; omega))) (fun c_9 => ?_)
      refine ga_aload_n 0 dX8_arrived_12 rfl ?_
      refine ga_get kf_X8_21 (shS hs _) rfl dX8_arrived_13 ?_
      refine ga_iload_n 3 dX8_arrived_16 rfl ?_
      refine gl_S4 hs hV kw (by omega) dX8_arrived_17 ?_
      refine ga_aload_n 1 dX8_arrived_18 rfl ?_
      refine ga_get kf_X8_88 (shC hc _) rfl dX8_arrived_19 ?_
      refine ga_iload_n 3 dX8_arrived_22 rfl ?_
      refine gl_C7 hc hK kw (by omega) dX8_arrived_23 ?_
      refine ga_icmp_ne 33 dX8_arrived_24 (by decide) (fun c_24 => ?_) (fun c_24 => ?_)
      · refine gs_iincN 3 1 [(0, _), (1, _), (2, _), (3, _)] dX8_arrived_33 rfl (by decide) (by decide) rfl rfl ?_
        refine ga_goto 4 dX8_arrived_36 (by decide) ?_
        have h9 := ih (t + 1) (by omega)
        first | (rw [gx_set_f (P := fun b => V 4 b = K 7 b) (k := t) (fun q => c_24 (by rw [q]))] at h9; exact h9) | (rw [gx_set_t (P := fun b => V 4 b = K 7 b) (k := t) ((nI_eq (by omega) (by omega)).mp c_24)] at h9; exact h9)
      · refine ga_iload_n 2 dX8_arrived_27 rfl ?_
        refine ga_iconst (nI 1) dX8_arrived_28 (by decide) ?_
        refine ga_iload_n 3 dX8_arrived_29 rfl ?_
        refine ga_ishl dX8_arrived_30 ?_
        refine ga_ior dX8_arrived_31 ?_
        refine gs_istore_n [(0, _), (1, _), (2, _), (3, _)] dX8_arrived_32 (by decide) rfl rfl ?_
        refine gs_iincN 3 1 [(0, _), (1, _), (2, _), (3, _)] dX8_arrived_33 rfl (by decide) (by decide) rfl rfl ?_
        refine ga_goto 4 dX8_arrived_36 (by decide) ?_
        have h9 := ih (t + 1) (by omega)
        first | (rw [gx_set_f (P := fun b => V 4 b = K 7 b) (k := t) (fun q => c_24 (by rw [q]))] at h9; exact h9) | (rw [gx_set_t (P := fun b => V 4 b = K 7 b) (k := t) ((nI_eq (by omega) (by omega)).mp c_24)] at h9; exact h9)
  exact loop (K 0 3) 0 (by omega)
