theorem gx_seat_lt {v n : Nat} (hv : v ≤ n) (h : ¬ v = 0) : ∃ u, v = u + 1 ∧ u < n := ⟨v - 1, by omega, by omega⟩
theorem gx_arg_lt {f : Nat → Nat} {n : Nat} (h : ¬ gx_arg f n = 0) : gx_arg f n - 1 < n := by have := gx_arg_le f n; omega
theorem gx_seat_p {v : Nat} (h : ¬ v = 0) : gx_seat v = nI (v - 1) := by
  obtain ⟨u, rfl⟩ : ∃ u, v = u + 1 := ⟨v - 1, by omega⟩
  exact gx_seat_s u
set_option maxRecDepth 100000 in
set_option maxHeartbeats 4000000 in
theorem c_X10_steepest {l : Launch} {G : gt_G} {n : Nat} {w : gt_W} {a : Nat} {K V : gx_K} {m : Int32} (hM : gx_mc (w 162) K) (kw : gx_KW K) (ha : gx_As a) (hV : gx_ms (w a) K V m) (vw : gx_VW K V) : gt_C l G yX10_steepest cX10_steepest 4 (some .int) 5 0 0 n [.ref 161, .ref a] (gt_enc w) (some (.int (gx_seat (gx_steep K V)))) (gt_enc (w)) := by
  refine gt_C_of (own := RX10) (nm := "steepest") rfl rfl (by decide +kernel) (Nat.le_of_ble_eq_true rfl) ?_
  show gt_A _ _ _ _ _ _ _ _ _ _ _ [(0, .ref 161), (1, .ref a)] _ _
  refine ga_iconst ((-1)) dX10_steepest_0 (by decide) ?_
  refine gs_istore_n [(0, _), (1, _), (2, _)] dX10_steepest_1 (by decide) rfl rfl ?_
  refine ga_iconst (nI 0) dX10_steepest_2 (by decide) ?_
  refine gs_istore_n [(0, _), (1, _), (2, _), (3, _)] dX10_steepest_3 (by decide) rfl rfl ?_
  have loop : ∀ j t, t + j = K 0 0 - 1 → gt_A l G RX10 "steepest" cX10_steepest 4 (some .int) (gt_rm 5 0 0) (gt_Z G (n + 0) 0 0 (some (.int (gx_seat (gx_steep K V)))) (gt_enc (w))) (n, 0, 0) 4 [(0, .ref 161), (1, .ref a), (2, .int (gx_seat (gx_arg (gx_un K V) t))), (3, .int (nI t))] [] (gt_enc w) := by
    intro j
    induction j with
    | zero =>
      intro t ht
      have et : t = K 0 0 - 1 := by omega
      refine ga_iload_n 3 dX10_steepest_4 rfl ?_
      refine ga_iconst (nI 1) dX10_steepest_5 (by decide) ?_
      refine ga_iadd dX10_steepest_6 ?_
      refine ga_aload_n 0 dX10_steepest_7 rfl ?_
      refine ga_get kf_X10_7 (sh161 _) rfl dX10_steepest_8 ?_
      refine ga_iconst (nI 0) dX10_steepest_11 (by decide) ?_
      refine gm_c0 hM dX10_steepest_12 ?_
      refine ga_icmp_ge 48 dX10_steepest_13 (by decide) (fun c_13 => ?_) (fun c_13 => absurd (by rw [nI_add]; exact nI_le (by omega) (by have := kw.1; omega)) c_13)
      refine ga_iload_n 2 dX10_steepest_48 rfl ?_
      exact ga_iret dX10_steepest_49 (gv (by rw [et]; rfl)) rfl
    | succ j ih =>
      intro t ht
      have hal := gx_arg_le (gx_un K V) t
      have l1 := gx_un_le kw vw t
      have l2 := gx_un_le kw vw (gx_arg (gx_un K V) t - 1)
      have k0 := kw.1
      refine ga_iload_n 3 dX10_steepest_4 rfl ?_
      refine ga_iconst (nI 1) dX10_steepest_5 (by decide) ?_
      refine ga_iadd dX10_steepest_6 ?_
      refine ga_aload_n 0 dX10_steepest_7 rfl ?_
      refine ga_get kf_X10_7 (sh161 _) rfl dX10_steepest_8 ?_
      refine ga_iconst (nI 0) dX10_steepest_11 (by decide) ?_
      refine gm_c0 hM dX10_steepest_12 ?_
      refine ga_icmp_ge 48 dX10_steepest_13 (by decide) (fun c_13 => absurd c_13 (by rw [nI_add]; exact nI_ge (by omega) (by have := kw.1; omega))) (fun c_13 => ?_)
      refine ga_iload_n 2 dX10_steepest_16 rfl ?_
      refine ga_iconst ((-1)) dX10_steepest_17 (by decide) ?_
      refine ga_icmp_eq 36 dX10_steepest_18 (by decide) (fun c_18 => ?_) (fun c_18 => ?_)
      · have e9 : gx_arg (gx_un K V) (t + 1) = t + 1 := gx_arg_t (Or.inl ((gx_seat_m1 (by omega)).mp c_18))
        have h9 := ih (t + 1) (by omega)
        rw [e9, gx_seat_s] at h9
        refine ga_iload_n 3 dX10_steepest_36 rfl ?_
        refine ga_goto 41 dX10_steepest_37 (by decide) ?_
        refine gs_istore_n [(0, _), (1, _), (2, _), (3, _)] dX10_steepest_41 (by decide) rfl rfl ?_
        refine gs_iincN 3 1 [(0, _), (1, _), (2, _), (3, _)] dX10_steepest_42 rfl (by decide) (by decide) rfl rfl ?_
        refine ga_goto 4 dX10_steepest_45 (by decide) ?_
        exact h9
      · have hz : ¬ gx_arg (gx_un K V) t = 0 := fun q => c_18 ((gx_seat_m1 (by omega)).mpr q)
        have es9 := gx_seat_p hz
        refine ga_aload_n 0 dX10_steepest_21 rfl ?_
        refine ga_aload_n 1 dX10_steepest_22 rfl ?_
        refine ga_iload_n 3 dX10_steepest_23 rfl ?_
        refine ga_V2 km_X10_159 kv_X10_unlike (c_X10_unlike hM kw ha hV vw (by omega)) (sh161 _) rfl rfl (gt_rc0 (by decide)) (Nat.le_of_ble_eq_true rfl) dX10_steepest_24 ?_
        refine ga_aload_n 0 dX10_steepest_27 rfl ?_
        refine ga_aload_n 1 dX10_steepest_28 rfl ?_
        refine ga_iload_n 2 dX10_steepest_29 rfl ?_
        refine ga_top _ es9 ?_
        refine ga_V2 km_X10_159 kv_X10_unlike (c_X10_unlike hM kw ha hV vw (by omega)) (sh161 _) rfl rfl (gt_rc0 (by decide)) (Nat.le_of_ble_eq_true rfl) dX10_steepest_30 ?_
        refine ga_icmp_le 40 dX10_steepest_33 (by decide) (fun c_33 => ?_) (fun c_33 => ?_)
        · have e9 : gx_arg (gx_un K V) (t + 1) = gx_arg (gx_un K V) t := gx_arg_f (fun q => q.elim hz (fun q => absurd q (Nat.not_lt.mpr ((nI_leI (by omega) (by omega)).mp c_33))))
          have h9 := ih (t + 1) (by omega)
          rw [e9] at h9
          refine ga_iload_n 2 dX10_steepest_40 rfl ?_
          refine gs_istore_n [(0, _), (1, _), (2, _), (3, _)] dX10_steepest_41 (by decide) rfl rfl ?_
          refine gs_iincN 3 1 [(0, _), (1, _), (2, _), (3, _)] dX10_steepest_42 rfl (by decide) (by decide) rfl rfl ?_
          refine ga_goto 4 dX10_steepest_45 (by decide) ?_
          exact h9
        · have e9 : gx_arg (gx_un K V) (t + 1) = t + 1 := gx_arg_t (Or.inr (by rcases Nat.lt_or_ge (gx_un K V (gx_arg (gx_un K V) t - 1)) (gx_un K V t) with q | q; exact q; exact absurd (nI_le q (by omega)) c_33))
          have h9 := ih (t + 1) (by omega)
          rw [e9, gx_seat_s] at h9
          refine ga_iload_n 3 dX10_steepest_36 rfl ?_
          refine ga_goto 41 dX10_steepest_37 (by decide) ?_
          refine gs_istore_n [(0, _), (1, _), (2, _), (3, _)] dX10_steepest_41 (by decide) rfl rfl ?_
          refine gs_iincN 3 1 [(0, _), (1, _), (2, _), (3, _)] dX10_steepest_42 rfl (by decide) (by decide) rfl rfl ?_
          refine ga_goto 4 dX10_steepest_45 (by decide) ?_
          exact h9
  exact loop (K 0 0 - 1) 0 (by omega)
set_option maxRecDepth 100000 in
set_option maxHeartbeats 4000000 in
theorem c_X10_slopeOn {l : Launch} {G : gt_G} {n : Nat} {w : gt_W} {a : Nat} {K V : gx_K} {m : Int32} (hM : gx_mc (w 162) K) (kw : gx_KW K) (ha : gx_As a) (hV : gx_ms (w a) K V m) (vw : gx_VW K V) : gt_C l G yX10_slopeOn cX10_slopeOn 3 (some .int) 6 0 0 n [.ref 161, .ref a] (gt_enc w) (some (.int (nI (gx_slope K V)))) (gt_enc (w)) := by
  have hal : gx_steep K V ≤ K 0 0 - 1 := gx_arg_le _ _
  have k0 := kw.1
  refine gt_C_of (own := RX10) (nm := "slopeOn") rfl rfl (by decide +kernel) (Nat.le_of_ble_eq_true rfl) ?_
  show gt_A _ _ _ _ _ _ _ _ _ _ _ [(0, .ref 161), (1, .ref a)] _ _
  refine ga_aload_n 0 dX10_slopeOn_0 rfl ?_
  refine ga_aload_n 1 dX10_slopeOn_1 rfl ?_
  refine ga_V1 km_X10_162 kv_X10_steepest (c_X10_steepest hM kw ha hV vw) (sh161 _) rfl rfl (gt_rc0 (by decide)) (Nat.le_of_ble_eq_true rfl) dX10_slopeOn_2 ?_
  refine gs_istore_n [(0, _), (1, _), (2, _)] dX10_slopeOn_5 (by decide) rfl rfl ?_
  refine ga_iload_n 2 dX10_slopeOn_6 rfl ?_
  refine ga_iconst ((-1)) dX10_slopeOn_7 (by decide) ?_
  refine ga_icmp_ne 15 dX10_slopeOn_8 (by decide) (fun c_8 => ?_) (fun c_8 => ?_)
  · have hz : ¬ gx_steep K V = 0 := fun q => c_8 (by rw [q]; rfl)
    refine ga_aload_n 0 dX10_slopeOn_15 rfl ?_
    refine ga_aload_n 1 dX10_slopeOn_16 rfl ?_
    refine ga_iload_n 2 dX10_slopeOn_17 rfl ?_
    refine ga_top _ (gx_seat_p hz) ?_
    refine ga_V2 km_X10_159 kv_X10_unlike (c_X10_unlike hM kw ha hV vw (by omega)) (sh161 _) rfl rfl (gt_rc0 (by decide)) (Nat.le_of_ble_eq_true rfl) dX10_slopeOn_18 ?_
    exact ga_iret dX10_slopeOn_21 (gv (by unfold gx_slope; first | exact congrArg nI (if_pos hz) | exact congrArg nI (if_neg hz))) rfl
  · have hz : gx_steep K V = 0 := (gx_seat_m1 (by omega)).mp c_8
    refine ga_iconst (nI 0) dX10_slopeOn_11 (by decide) ?_
    refine ga_goto 21 dX10_slopeOn_12 (by decide) ?_
    exact ga_iret dX10_slopeOn_21 (gv (by unfold gx_slope; first | exact congrArg nI (if_pos hz) | exact congrArg nI (if_neg hz))) rfl
theorem gx_or0 (z : Int32) : z ||| nI 0 = z := by rw [nI_0, Int32.or_zero]
set_option maxRecDepth 100000 in
set_option maxHeartbeats 4000000 in
theorem c_X10_wet {l : Launch} {G : gt_G} {n : Nat} {w : gt_W} {K V : gx_K} {m : Int32} (hM : gx_mc (w 162) K) (kw : gx_KW K) (hV : gx_ms (w 164) K V m) (vw : gx_VW K V) : gt_C l G yX10_wet cX10_wet 3 (some .int) 5 0 0 n [.ref 161] (gt_enc w) (some (.int (gx_set (fun x => 0 < gx_dep K V x) (K 0 0)))) (gt_enc (w)) := by
  refine gt_C_of (own := RX10) (nm := "wet") rfl rfl (by decide +kernel) (Nat.le_of_ble_eq_true rfl) ?_
  show gt_A _ _ _ _ _ _ _ _ _ _ _ [(0, .ref 161)] _ _
  refine ga_iconst (nI 0) dX10_wet_0 (by decide) ?_
  refine gs_istore_n [(0, _), (1, _)] dX10_wet_1 (by decide) rfl rfl ?_
  refine ga_iconst (nI 0) dX10_wet_2 (by decide) ?_
  refine gs_istore_n [(0, _), (1, _), (2, _)] dX10_wet_3 (by decide) rfl rfl ?_
  have loop : ∀ j t, t + j = K 0 0 → gt_A l G RX10 "wet" cX10_wet 3 (some .int) (gt_rm 5 0 0) (gt_Z G (n + 0) 0 0 (some (.int (gx_set (fun x => 0 < gx_dep K V x) (K 0 0)))) (gt_enc (w))) (n, 0, 0) 4 [(0, .ref 161), (1, .int (gx_set (fun x => 0 < gx_dep K V x) t)), (2, .int (nI t))] [] (gt_enc w) := by
    intro j
    induction j with
    | zero =>
      intro t ht
      have et : t = K 0 0 := by omega
      refine ga_iload_n 2 dX10_wet_4 rfl ?_
      refine ga_aload_n 0 dX10_wet_5 rfl ?_
      refine ga_get kf_X10_7 (sh161 _) rfl dX10_wet_6 ?_
      refine ga_iconst (nI 0) dX10_wet_9 (by decide) ?_
      refine gm_c0 hM dX10_wet_10 ?_
      refine ga_icmp_ge 42 dX10_wet_11 (by decide) (fun c_11 => ?_) (fun c_11 => absurd (nI_le (by omega) (by have := kw.1; omega)) c_11)
      refine ga_iload_n 1 dX10_wet_42 rfl ?_
      exact ga_iret dX10_wet_43 (gv (by rw [et])) rfl
    | succ j ih =>
      intro t ht
      refine ga_iload_n 2 dX10_wet_4 rfl ?_
      refine ga_aload_n 0 dX10_wet_5 rfl ?_
      refine ga_get kf_X10_7 (sh161 _) rfl dX10_wet_6 ?_
      refine ga_iconst (nI 0) dX10_wet_9 (by decide) ?_
      refine gm_c0 hM dX10_wet_10 ?_
      refine ga_icmp_ge 42 dX10_wet_11 (by decide) (fun c_11 => absurd c_11 (nI_ge (by omega) (by have := kw.1; omega))) (fun c_11 => ?_)
      refine ga_iload_n 1 dX10_wet_14 rfl ?_
      refine ga_aload_n 0 dX10_wet_15 rfl ?_
      refine ga_aload_n 0 dX10_wet_16 rfl ?_
      refine ga_get kf_X10_16 (sh161 _) rfl dX10_wet_17 ?_
      refine ga_iload_n 2 dX10_wet_20 rfl ?_
      refine ga_V2 km_X10_166 kv_X10_depthOn (c_X10_depthOn hM kw as164 hV vw (by omega)) (sh161 _) rfl rfl (gt_rc0 (by decide)) (Nat.le_of_ble_eq_true rfl) dX10_wet_21 ?_
      refine ga_if_le 33 dX10_wet_24 (by decide) (fun c_24 => ?_) (fun c_24 => ?_)
      · have hP : ¬ 0 < gx_dep K V t := fun q => absurd c_24 (nI_nle q (by have := gx_dep_le kw vw t; omega))
        refine ga_iconst (nI 0) dX10_wet_33 (by decide) ?_
        refine ga_ior dX10_wet_34 ?_
        refine gs_istore_n [(0, _), (1, _), (2, _)] dX10_wet_35 (by decide) rfl rfl ?_
        refine gs_iincN 2 1 [(0, _), (1, _), (2, _)] dX10_wet_36 rfl (by decide) (by decide) rfl rfl ?_
        refine ga_goto 4 dX10_wet_39 (by decide) ?_
        have h9 := ih (t + 1) (by omega)
        first | (rw [gx_set_t (P := (fun x => 0 < gx_dep K V x)) hP] at h9; exact h9) | (rw [gx_set_f (P := (fun x => 0 < gx_dep K V x)) hP] at h9; rw [gx_or0]; exact h9)
      · have hP : 0 < gx_dep K V t := by rcases Nat.eq_zero_or_pos (gx_dep K V t) with q | q; exact absurd (show nI (gx_dep K V t) ≤ 0 by rw [q]; decide) c_24; exact q
        refine ga_iconst (nI 1) dX10_wet_27 (by decide) ?_
        refine ga_iload_n 2 dX10_wet_28 rfl ?_
        refine ga_ishl dX10_wet_29 ?_
        refine ga_goto 34 dX10_wet_30 (by decide) ?_
        refine ga_ior dX10_wet_34 ?_
        refine gs_istore_n [(0, _), (1, _), (2, _)] dX10_wet_35 (by decide) rfl rfl ?_
        refine gs_iincN 2 1 [(0, _), (1, _), (2, _)] dX10_wet_36 rfl (by decide) (by decide) rfl rfl ?_
        refine ga_goto 4 dX10_wet_39 (by decide) ?_
        have h9 := ih (t + 1) (by omega)
        first | (rw [gx_set_t (P := (fun x => 0 < gx_dep K V x)) hP] at h9; exact h9) | (rw [gx_set_f (P := (fun x => 0 < gx_dep K V x)) hP] at h9; rw [gx_or0]; exact h9)
  exact loop (K 0 0) 0 (by omega)
set_option maxRecDepth 100000 in
set_option maxHeartbeats 4000000 in
theorem c_X10_whoSits {l : Launch} {G : gt_G} {n : Nat} {w : gt_W} {K V : gx_K} {m : Int32} (hM : gx_mc (w 162) K) (kw : gx_KW K) (hV : gx_ms (w 164) K V m) (vw : gx_VW K V) : gt_C l G yX10_whoSits cX10_whoSits 3 (some .int) 1 0 0 n [.ref 161] (gt_enc w) (some (.int (gx_set (fun p => ¬ V 2 p = 0) (K 0 2)))) (gt_enc (w)) := by
  refine gt_C_of (own := RX10) (nm := "whoSits") rfl rfl (by decide +kernel) (Nat.le_of_ble_eq_true rfl) ?_
  show gt_A _ _ _ _ _ _ _ _ _ _ _ [(0, .ref 161)] _ _
  refine ga_iconst (nI 0) dX10_whoSits_0 (by decide) ?_
  refine gs_istore_n [(0, _), (1, _)] dX10_whoSits_1 (by decide) rfl rfl ?_
  refine ga_iconst (nI 0) dX10_whoSits_2 (by decide) ?_
  refine gs_istore_n [(0, _), (1, _), (2, _)] dX10_whoSits_3 (by decide) rfl rfl ?_
  have loop : ∀ j t, t + j = K 0 2 → gt_A l G RX10 "whoSits" cX10_whoSits 3 (some .int) (gt_rm 1 0 0) (gt_Z G (n + 0) 0 0 (some (.int (gx_set (fun p => ¬ V 2 p = 0) (K 0 2)))) (gt_enc (w))) (n, 0, 0) 4 [(0, .ref 161), (1, .int (gx_set (fun p => ¬ V 2 p = 0) t)), (2, .int (nI t))] [] (gt_enc w) := by
    intro j
    induction j with
    | zero =>
      intro t ht
      have et : t = K 0 2 := by omega
      refine ga_iload_n 2 dX10_whoSits_4 rfl ?_
      refine ga_aload_n 0 dX10_whoSits_5 rfl ?_
      refine ga_get kf_X10_7 (sh161 _) rfl dX10_whoSits_6 ?_
      refine ga_iconst (nI 2) dX10_whoSits_9 (by decide) ?_
      refine gm_c2 hM dX10_whoSits_10 ?_
      refine ga_icmp_ge 43 dX10_whoSits_11 (by decide) (fun c_11 => ?_) (fun c_11 => absurd (nI_le (by omega) (by have := kw.2.2.1; omega)) c_11)
      refine ga_iload_n 1 dX10_whoSits_43 rfl ?_
      exact ga_iret dX10_whoSits_44 (gv (by rw [et])) rfl
    | succ j ih =>
      intro t ht
      refine ga_iload_n 2 dX10_whoSits_4 rfl ?_
      refine ga_aload_n 0 dX10_whoSits_5 rfl ?_
      refine ga_get kf_X10_7 (sh161 _) rfl dX10_whoSits_6 ?_
      refine ga_iconst (nI 2) dX10_whoSits_9 (by decide) ?_
      refine gm_c2 hM dX10_whoSits_10 ?_
      refine ga_icmp_ge 43 dX10_whoSits_11 (by decide) (fun c_11 => absurd c_11 (nI_ge (by omega) (by have := kw.2.2.1; omega))) (fun c_11 => ?_)
      refine ga_iload_n 1 dX10_whoSits_14 rfl ?_
      refine ga_aload_n 0 dX10_whoSits_15 rfl ?_
      refine ga_get kf_X10_16 (sh161 _) rfl dX10_whoSits_16 ?_
      refine ga_bipush (nI 12) dX10_whoSits_19 (by decide) ?_
      refine ga_iload_n 2 dX10_whoSits_21 rfl ?_
      refine ga_iadd dX10_whoSits_22 ?_
      refine gm_S2 sh164 hV kw (by omega) dX10_whoSits_23 ?_
      refine ga_iconst ((-1)) dX10_whoSits_24 (by decide) ?_
      refine ga_icmp_ne 32 dX10_whoSits_25 (by decide) (fun c_25 => ?_) (fun c_25 => ?_)
      · have hP : ¬ V 2 t = 0 := fun q => c_25 (by rw [q]; rfl)
        refine ga_iconst (nI 1) dX10_whoSits_32 (by decide) ?_
        refine ga_iload_n 2 dX10_whoSits_33 rfl ?_
        refine ga_ishl dX10_whoSits_34 ?_
        refine ga_ior dX10_whoSits_35 ?_
        refine gs_istore_n [(0, _), (1, _), (2, _)] dX10_whoSits_36 (by decide) rfl rfl ?_
        refine gs_iincN 2 1 [(0, _), (1, _), (2, _)] dX10_whoSits_37 rfl (by decide) (by decide) rfl rfl ?_
        refine ga_goto 4 dX10_whoSits_40 (by decide) ?_
        have h9 := ih (t + 1) (by omega)
        first | (rw [gx_set_t (P := (fun p => ¬ V 2 p = 0)) hP] at h9; exact h9) | (rw [gx_set_f (P := (fun p => ¬ V 2 p = 0)) hP] at h9; rw [gx_or0]; exact h9)
      · have hP : ¬ ¬ V 2 t = 0 := fun q => q ((gx_seat_m1 (by have := vw.2.2.1 t (by omega); have := kw.2.1; omega)).mp c_25)
        refine ga_iconst (nI 0) dX10_whoSits_28 (by decide) ?_
        refine ga_goto 35 dX10_whoSits_29 (by decide) ?_
        refine ga_ior dX10_whoSits_35 ?_
        refine gs_istore_n [(0, _), (1, _), (2, _)] dX10_whoSits_36 (by decide) rfl rfl ?_
        refine gs_iincN 2 1 [(0, _), (1, _), (2, _)] dX10_whoSits_37 rfl (by decide) (by decide) rfl rfl ?_
        refine ga_goto 4 dX10_whoSits_40 (by decide) ?_
        have h9 := ih (t + 1) (by omega)
        first | (rw [gx_set_t (P := (fun p => ¬ V 2 p = 0)) hP] at h9; exact h9) | (rw [gx_set_f (P := (fun p => ¬ V 2 p = 0)) hP] at h9; rw [gx_or0]; exact h9)
  exact loop (K 0 2) 0 (by omega)
set_option maxRecDepth 100000 in
set_option maxHeartbeats 4000000 in
theorem c_X10_strongest {l : Launch} {G : gt_G} {n : Nat} {w : gt_W} {K V : gx_K} {m : Int32} {k : Nat} (hM : gx_mc (w 162) K) (kw : gx_KW K) (hV : gx_ms (w 164) K V m) (vw : gx_VW K V) (hk : k < 11) : gt_C l G yX10_strongest cX10_strongest 4 (some .int) 3 0 0 n [.ref 161, .int (nI k)] (gt_enc w) (some (.int (gx_seat (gx_argp (gx_bf K V k) (K 0 1))))) (gt_enc (w)) := by
  refine gt_C_of (own := RX10) (nm := "strongest") rfl rfl (by decide +kernel) (Nat.le_of_ble_eq_true rfl) ?_
  show gt_A _ _ _ _ _ _ _ _ _ _ _ [(0, .ref 161), (1, .int (nI k))] _ _
  refine ga_iconst ((-1)) dX10_strongest_0 (by decide) ?_
  refine gs_istore_n [(0, _), (1, _), (2, _)] dX10_strongest_1 (by decide) rfl rfl ?_
  refine ga_iconst (nI 0) dX10_strongest_2 (by decide) ?_
  refine gs_istore_n [(0, _), (1, _), (2, _), (3, _)] dX10_strongest_3 (by decide) rfl rfl ?_
  have loop : ∀ j t, t + j = K 0 1 → gt_A l G RX10 "strongest" cX10_strongest 4 (some .int) (gt_rm 3 0 0) (gt_Z G (n + 0) 0 0 (some (.int (gx_seat (gx_argp (gx_bf K V k) (K 0 1))))) (gt_enc (w))) (n, 0, 0) 4 [(0, .ref 161), (1, .int (nI k)), (2, .int (gx_seat (gx_argp (gx_bf K V k) t))), (3, .int (nI t))] [] (gt_enc w) := by
    intro j
    induction j with
    | zero =>
      intro t ht
      have et : t = K 0 1 := by omega
      refine ga_iload_n 3 dX10_strongest_4 rfl ?_
      refine ga_aload_n 0 dX10_strongest_5 rfl ?_
      refine ga_get kf_X10_7 (sh161 _) rfl dX10_strongest_6 ?_
      refine ga_iconst (nI 1) dX10_strongest_9 (by decide) ?_
      refine gm_c1 hM dX10_strongest_10 ?_
      refine ga_icmp_ge 58 dX10_strongest_11 (by decide) (fun c_11 => ?_) (fun c_11 => absurd (nI_le (by omega) (by have := kw.2.1; omega)) c_11)
      refine ga_iload_n 2 dX10_strongest_58 rfl ?_
      exact ga_iret dX10_strongest_59 (gv (by rw [et])) rfl
    | succ j ih =>
      intro t ht
      have hal := gx_argp_le (gx_bf K V k) t
      have k1 := kw.2.1
      have l1 := gx_bf_le vw k (t := t) (by omega)
      refine ga_iload_n 3 dX10_strongest_4 rfl ?_
      refine ga_aload_n 0 dX10_strongest_5 rfl ?_
      refine ga_get kf_X10_7 (sh161 _) rfl dX10_strongest_6 ?_
      refine ga_iconst (nI 1) dX10_strongest_9 (by decide) ?_
      refine gm_c1 hM dX10_strongest_10 ?_
      refine ga_icmp_ge 58 dX10_strongest_11 (by decide) (fun c_11 => absurd c_11 (nI_ge (by omega) (by have := kw.2.1; omega))) (fun c_11 => ?_)
      refine ga_aload_n 0 dX10_strongest_14 rfl ?_
      refine ga_aload_n 0 dX10_strongest_15 rfl ?_
      refine ga_get kf_X10_16 (sh161 _) rfl dX10_strongest_16 ?_
      refine ga_iload_n 3 dX10_strongest_19 rfl ?_
      refine ga_iload_n 1 dX10_strongest_20 rfl ?_
      refine ga_V3 km_X10_151 kv_X10_bears (c_X10_bears hM kw as164 hV vw (by omega) hk) (sh161 _) rfl rfl (gt_rc0 (by decide)) (Nat.le_of_ble_eq_true rfl) dX10_strongest_21 ?_
      refine ga_iload_n 2 dX10_strongest_24 rfl ?_
      refine ga_iconst ((-1)) dX10_strongest_25 (by decide) ?_
      refine ga_icmp_ne 33 dX10_strongest_26 (by decide) (fun c_26 => ?_) (fun c_26 => ?_)
      · have hz : ¬ gx_argp (gx_bf K V k) t = 0 := fun q => c_26 (by rw [q]; rfl)
        have l2 := gx_bf_le vw k (t := gx_argp (gx_bf K V k) t - 1) (by omega)
        have em : (if gx_argp (gx_bf K V k) t = 0 then 0 else gx_bf K V k (gx_argp (gx_bf K V k) t - 1)) = gx_bf K V k (gx_argp (gx_bf K V k) t - 1) := if_neg hz
        refine ga_aload_n 0 dX10_strongest_33 rfl ?_
        refine ga_aload_n 0 dX10_strongest_34 rfl ?_
        refine ga_get kf_X10_16 (sh161 _) rfl dX10_strongest_35 ?_
        refine ga_iload_n 2 dX10_strongest_38 rfl ?_
        refine ga_top _ (gx_seat_p hz) ?_
        refine ga_iload_n 1 dX10_strongest_39 rfl ?_
        refine ga_V3 km_X10_151 kv_X10_bears (c_X10_bears hM kw as164 hV vw (by omega) hk) (sh161 _) rfl rfl (gt_rc0 (by decide)) (Nat.le_of_ble_eq_true rfl) dX10_strongest_40 ?_
        refine ga_icmp_le 50 dX10_strongest_43 (by decide) (fun c_43 => ?_) (fun c_43 => ?_)
        · have e9 : gx_argp (gx_bf K V k) (t + 1) = gx_argp (gx_bf K V k) t := gx_argp_f (by rw [em]; exact Nat.not_lt.mpr ((nI_leI (by omega) (by omega)).mp c_43))
          have h9 := ih (t + 1) (by omega)
          rw [e9] at h9
          refine ga_iload_n 2 dX10_strongest_50 rfl ?_
          refine gs_istore_n [(0, _), (1, _), (2, _), (3, _)] dX10_strongest_51 (by decide) rfl rfl ?_
          refine gs_iincN 3 1 [(0, _), (1, _), (2, _), (3, _)] dX10_strongest_52 rfl (by decide) (by decide) rfl rfl ?_
          refine ga_goto 4 dX10_strongest_55 (by decide) ?_
          exact h9
        · have e9 : gx_argp (gx_bf K V k) (t + 1) = t + 1 := gx_argp_t (by rw [em]; exact Nat.not_le.mp (fun q => c_43 (nI_le q (by omega))))
          have h9 := ih (t + 1) (by omega)
          rw [e9, gx_seat_s] at h9
          refine ga_iload_n 3 dX10_strongest_46 rfl ?_
          refine ga_goto 51 dX10_strongest_47 (by decide) ?_
          refine gs_istore_n [(0, _), (1, _), (2, _), (3, _)] dX10_strongest_51 (by decide) rfl rfl ?_
          refine gs_iincN 3 1 [(0, _), (1, _), (2, _), (3, _)] dX10_strongest_52 rfl (by decide) (by decide) rfl rfl ?_
          refine ga_goto 4 dX10_strongest_55 (by decide) ?_
          exact h9
      · have hz : gx_argp (gx_bf K V k) t = 0 := (gx_seat_m1 (by omega)).mp c_26
        have l2 : (0 : Nat) ≤ 99 := by decide
        have em : (if gx_argp (gx_bf K V k) t = 0 then 0 else gx_bf K V k (gx_argp (gx_bf K V k) t - 1)) = 0 := if_pos hz
        refine ga_iconst (nI 0) dX10_strongest_29 (by decide) ?_
        refine ga_goto 43 dX10_strongest_30 (by decide) ?_
        refine ga_icmp_le 50 dX10_strongest_43 (by decide) (fun c_43 => ?_) (fun c_43 => ?_)
        · have e9 : gx_argp (gx_bf K V k) (t + 1) = gx_argp (gx_bf K V k) t := gx_argp_f (by rw [em]; exact Nat.not_lt.mpr ((nI_leI (by omega) (by omega)).mp c_43))
          have h9 := ih (t + 1) (by omega)
          rw [e9] at h9
          refine ga_iload_n 2 dX10_strongest_50 rfl ?_
          refine gs_istore_n [(0, _), (1, _), (2, _), (3, _)] dX10_strongest_51 (by decide) rfl rfl ?_
          refine gs_iincN 3 1 [(0, _), (1, _), (2, _), (3, _)] dX10_strongest_52 rfl (by decide) (by decide) rfl rfl ?_
          refine ga_goto 4 dX10_strongest_55 (by decide) ?_
          exact h9
        · have e9 : gx_argp (gx_bf K V k) (t + 1) = t + 1 := gx_argp_t (by rw [em]; exact Nat.not_le.mp (fun q => c_43 (nI_le q (by omega))))
          have h9 := ih (t + 1) (by omega)
          rw [e9, gx_seat_s] at h9
          refine ga_iload_n 3 dX10_strongest_46 rfl ?_
          refine ga_goto 51 dX10_strongest_47 (by decide) ?_
          refine gs_istore_n [(0, _), (1, _), (2, _), (3, _)] dX10_strongest_51 (by decide) rfl rfl ?_
          refine gs_iincN 3 1 [(0, _), (1, _), (2, _), (3, _)] dX10_strongest_52 rfl (by decide) (by decide) rfl rfl ?_
          refine ga_goto 4 dX10_strongest_55 (by decide) ?_
          exact h9
  exact loop (K 0 1) 0 (by omega)
set_option maxRecDepth 100000 in
set_option maxHeartbeats 4000000 in
theorem c_X10_sitterOn {l : Launch} {G : gt_G} {n : Nat} {w : gt_W} {a : Nat} {K V : gx_K} {m : Int32} {u : Nat} (hM : gx_mc (w 162) K) (kw : gx_KW K) (ha : gx_As a) (hV : gx_ms (w a) K V m) (vw : gx_VW K V) (vd : gx_Vd K V) (hu : u < 6) : gt_C l G yX10_sitterOn cX10_sitterOn 5 (some .int) 1 0 0 n [.ref 161, .ref a, .int (nI u)] (gt_enc w) (some (.int (gx_first (fun p => V 2 p = u + 1) 0 (K 0 2)))) (gt_enc (w)) := by
  refine gt_C_of (own := RX10) (nm := "sitterOn") rfl rfl (by decide +kernel) (Nat.le_of_ble_eq_true rfl) ?_
  show gt_A _ _ _ _ _ _ _ _ _ _ _ [(0, .ref 161), (1, .ref a), (2, .int (nI u))] _ _
  refine ga_iconst ((-1)) dX10_sitterOn_0 (by decide) ?_
  refine gs_istore_n [(0, _), (1, _), (2, _), (3, _)] dX10_sitterOn_1 (by decide) rfl rfl ?_
  refine ga_iconst (nI 0) dX10_sitterOn_2 (by decide) ?_
  refine gs_istore [(0, _), (1, _), (2, _), (3, _), (4, _)] dX10_sitterOn_3 (by decide) rfl rfl ?_
  have loop : ∀ j t, t + j = K 0 2 → gt_A l G RX10 "sitterOn" cX10_sitterOn 5 (some .int) (gt_rm 1 0 0) (gt_Z G (n + 0) 0 0 (some (.int (gx_first (fun p => V 2 p = u + 1) 0 (K 0 2)))) (gt_enc (w))) (n, 0, 0) 5 [(0, .ref 161), (1, .ref a), (2, .int (nI u)), (3, .int (gx_seat (gx_lst (fun p => V 2 p = u + 1) t))), (4, .int (nI t))] [] (gt_enc w) := by
    intro j
    induction j with
    | zero =>
      intro t ht
      have et : t = K 0 2 := by omega
      refine ga_iload 4 dX10_sitterOn_5 rfl ?_
      refine ga_aload_n 0 dX10_sitterOn_7 rfl ?_
      refine ga_get kf_X10_7 (sh161 _) rfl dX10_sitterOn_8 ?_
      refine ga_iconst (nI 2) dX10_sitterOn_11 (by decide) ?_
      refine gm_c2 hM dX10_sitterOn_12 ?_
      refine ga_icmp_ge 40 dX10_sitterOn_13 (by decide) (fun c_13 => ?_) (fun c_13 => absurd (nI_le (by omega) (by have := kw.2.2.1; omega)) c_13)
      refine ga_iload_n 3 dX10_sitterOn_40 rfl ?_
      exact ga_iret dX10_sitterOn_41 (gv (by rw [et]; exact (gx_lst_first (P := (fun p => V 2 p = u + 1)) _ (fun i j hi hj q1 q2 => vd i j hi hj (by rw [q1, q2]) (by rw [q1]; omega))).symm)) rfl
    | succ j ih =>
      intro t ht
      refine ga_iload 4 dX10_sitterOn_5 rfl ?_
      refine ga_aload_n 0 dX10_sitterOn_7 rfl ?_
      refine ga_get kf_X10_7 (sh161 _) rfl dX10_sitterOn_8 ?_
      refine ga_iconst (nI 2) dX10_sitterOn_11 (by decide) ?_
      refine gm_c2 hM dX10_sitterOn_12 ?_
      refine ga_icmp_ge 40 dX10_sitterOn_13 (by decide) (fun c_13 => absurd c_13 (nI_ge (by omega) (by have := kw.2.2.1; omega))) (fun c_13 => ?_)
      refine ga_aload_n 1 dX10_sitterOn_16 rfl ?_
      refine ga_bipush (nI 12) dX10_sitterOn_17 (by decide) ?_
      refine ga_iload 4 dX10_sitterOn_19 rfl ?_
      refine ga_iadd dX10_sitterOn_21 ?_
      refine gm_S2 (shA ha) hV kw (by omega) dX10_sitterOn_22 ?_
      refine ga_iload_n 2 dX10_sitterOn_23 rfl ?_
      refine ga_icmp_ne 32 dX10_sitterOn_24 (by decide) (fun c_24 => ?_) (fun c_24 => ?_)
      · have hP : ¬ V 2 t = u + 1 := fun q => c_24 ((gx_seat_eq (by have := vw.2.2.1 t (by omega); have := kw.2.1; omega) (by omega)).mpr q)
        refine ga_iload_n 3 dX10_sitterOn_32 rfl ?_
        refine gs_istore_n [(0, _), (1, _), (2, _), (3, _), (4, _)] dX10_sitterOn_33 (by decide) rfl rfl ?_
        refine gs_iincN 4 1 [(0, _), (1, _), (2, _), (3, _), (4, _)] dX10_sitterOn_34 rfl (by decide) (by decide) rfl rfl ?_
        refine ga_goto 5 dX10_sitterOn_37 (by decide) ?_
        have h9 := ih (t + 1) (by omega)
        first | (rw [gx_lst_t (P := (fun p => V 2 p = u + 1)) hP, gx_seat_s] at h9; exact h9) | (rw [gx_lst_f (P := (fun p => V 2 p = u + 1)) hP] at h9; exact h9)
      · have hP : V 2 t = u + 1 := (gx_seat_eq (by have := vw.2.2.1 t (by omega); have := kw.2.1; omega) (by omega)).mp c_24
        refine ga_iload 4 dX10_sitterOn_27 rfl ?_
        refine ga_goto 33 dX10_sitterOn_29 (by decide) ?_
        refine gs_istore_n [(0, _), (1, _), (2, _), (3, _), (4, _)] dX10_sitterOn_33 (by decide) rfl rfl ?_
        refine gs_iincN 4 1 [(0, _), (1, _), (2, _), (3, _), (4, _)] dX10_sitterOn_34 rfl (by decide) (by decide) rfl rfl ?_
        refine ga_goto 5 dX10_sitterOn_37 (by decide) ?_
        have h9 := ih (t + 1) (by omega)
        first | (rw [gx_lst_t (P := (fun p => V 2 p = u + 1)) hP, gx_seat_s] at h9; exact h9) | (rw [gx_lst_f (P := (fun p => V 2 p = u + 1)) hP] at h9; exact h9)
  exact loop (K 0 2) 0 (by omega)
set_option maxRecDepth 100000 in
set_option maxHeartbeats 4000000 in
theorem c_X10_boats1 {l : Launch} {G : gt_G} {n : Nat} {w : gt_W} {K V : gx_K} {m : Int32} (hM : gx_mc (w 162) K) (kw : gx_KW K) (hV : gx_ms (w 164) K V m) (vw : gx_VW K V) : gt_C l G yX10_boats cX10_boats 5 (some .int) 5 0 0 n [.ref 161, .int (nI 1)] (gt_enc w) (some (.int (gx_set (fun b => gx_dep K V (V 4 b) < K 5 b) (K 0 3)))) (gt_enc (w)) := by
  refine gt_C_of (own := RX10) (nm := "boats") rfl rfl (by decide +kernel) (Nat.le_of_ble_eq_true rfl) ?_
  show gt_A _ _ _ _ _ _ _ _ _ _ _ [(0, .ref 161), (1, .int (nI 1))] _ _
  refine ga_iconst (nI 0) dX10_boats_0 (by decide) ?_
  refine gs_istore_n [(0, _), (1, _), (2, _)] dX10_boats_1 (by decide) rfl rfl ?_
  refine ga_iconst (nI 0) dX10_boats_2 (by decide) ?_
  refine gs_istore_n [(0, _), (1, _), (2, _), (3, _)] dX10_boats_3 (by decide) rfl rfl ?_
  have loop : ∀ j t, t + j = K 0 3 → gt_A l G RX10 "boats" cX10_boats 5 (some .int) (gt_rm 5 0 0) (gt_Z G (n + 0) 0 0 (some (.int (gx_set (fun b => gx_dep K V (V 4 b) < K 5 b) (K 0 3)))) (gt_enc (w))) (n, 0, 0) 4 [(0, .ref 161), (1, .int (nI 1)), (2, .int (gx_set (fun b => gx_dep K V (V 4 b) < K 5 b) t)), (3, .int (nI t))] [] (gt_enc w) := by
    intro j
    induction j with
    | zero =>
      intro t ht
      have et : t = K 0 3 := by omega
      refine ga_iload_n 3 dX10_boats_4 rfl ?_
      refine ga_aload_n 0 dX10_boats_5 rfl ?_
      refine ga_get kf_X10_7 (sh161 _) rfl dX10_boats_6 ?_
      refine ga_iconst (nI 3) dX10_boats_9 (by decide) ?_
      refine gm_c3 hM dX10_boats_10 ?_
      refine ga_icmp_ge 104 dX10_boats_11 (by decide) (fun c_11 => ?_) (fun c_11 => absurd (nI_le (by omega) (by have := kw.2.2.2.1; omega)) c_11)
      refine ga_iload_n 2 dX10_boats_104 rfl ?_
      exact ga_iret dX10_boats_105 (gv (by rw [et])) rfl
    | succ j ih =>
      intro t ht
      refine ga_iload_n 3 dX10_boats_4 rfl ?_
      refine ga_aload_n 0 dX10_boats_5 rfl ?_
      refine ga_get kf_X10_7 (sh161 _) rfl dX10_boats_6 ?_
      refine ga_iconst (nI 3) dX10_boats_9 (by decide) ?_
      refine gm_c3 hM dX10_boats_10 ?_
      refine ga_icmp_ge 104 dX10_boats_11 (by decide) (fun c_11 => absurd c_11 (nI_ge (by omega) (by have := kw.2.2.2.1; omega))) (fun c_11 => ?_)
      refine ga_iload_n 1 dX10_boats_14 rfl ?_
      refine ga_if_eq 55 dX10_boats_15 (by decide) (fun c_15 => absurd c_15 (by decide)) (fun c_15 => ?_)
      refine ga_aload_n 0 dX10_boats_18 rfl ?_
      refine ga_aload_n 0 dX10_boats_19 rfl ?_
      refine ga_get kf_X10_16 (sh161 _) rfl dX10_boats_20 ?_
      refine ga_aload_n 0 dX10_boats_23 rfl ?_
      refine ga_get kf_X10_16 (sh161 _) rfl dX10_boats_24 ?_
      refine ga_bipush (nI 19) dX10_boats_27 (by decide) ?_
      refine ga_iload_n 3 dX10_boats_29 rfl ?_
      refine ga_iadd dX10_boats_30 ?_
      refine gm_S4 sh164 hV kw (by omega) dX10_boats_31 ?_
      refine ga_V2 km_X10_166 kv_X10_depthOn (c_X10_depthOn hM kw as164 hV vw (vw.2.2.2.2 t (by omega))) (sh161 _) rfl rfl (gt_rc0 (by decide)) (Nat.le_of_ble_eq_true rfl) dX10_boats_32 ?_
      refine ga_aload_n 0 dX10_boats_35 rfl ?_
      refine ga_get kf_X10_7 (sh161 _) rfl dX10_boats_36 ?_
      refine ga_bipush (nI 32) dX10_boats_39 (by decide) ?_
      refine ga_iload_n 3 dX10_boats_41 rfl ?_
      refine ga_iadd dX10_boats_42 ?_
      refine gm_C5 hM kw (by omega) dX10_boats_43 ?_
      refine ga_icmp_ge 51 dX10_boats_44 (by decide) (fun c_44 => ?_) (fun c_44 => ?_)
      · have hP : ¬ gx_dep K V (V 4 t) < K 5 t := Nat.not_lt.mpr ((nI_leI (by have := kw.2.2.2.2.2.2.2.2.1 t (by omega); omega) (by have := gx_dep_le kw vw (V 4 t); omega)).mp c_44)
        refine ga_iconst (nI 0) dX10_boats_51 (by decide) ?_
        refine ga_goto 81 dX10_boats_52 (by decide) ?_
        refine gs_istore [(0, _), (1, _), (2, _), (3, _), (4, _)] dX10_boats_81 (by decide) rfl rfl ?_
        refine ga_iload_n 2 dX10_boats_83 rfl ?_
        refine ga_iload 4 dX10_boats_84 rfl ?_
        refine ga_if_eq 95 dX10_boats_86 (by decide) (fun c_86 => ?_) (fun c_86 => absurd nI_0 c_86)
        refine ga_iconst (nI 0) dX10_boats_95 (by decide) ?_
        refine ga_ior dX10_boats_96 ?_
        refine gs_istore_n [(0, _), (1, _), (2, _), (3, _), (4, _)] dX10_boats_97 (by decide) rfl rfl ?_
        refine gs_iincN 3 1 [(0, _), (1, _), (2, _), (3, _), (4, _)] dX10_boats_98 rfl (by decide) (by decide) rfl rfl ?_
        refine ga_goto 4 dX10_boats_101 (by decide) ?_
        refine ga_take 4 ?_
        have h9 := ih (t + 1) (by omega)
        first | (rw [gx_set_t (P := (fun b => gx_dep K V (V 4 b) < K 5 b)) hP] at h9; exact h9) | (rw [gx_set_f (P := (fun b => gx_dep K V (V 4 b) < K 5 b)) hP] at h9; rw [gx_or0]; exact h9)
      · have hP : gx_dep K V (V 4 t) < K 5 t := Nat.not_le.mp (fun q => c_44 (nI_le q (by have := gx_dep_le kw vw (V 4 t); omega)))
        refine ga_iconst (nI 1) dX10_boats_47 (by decide) ?_
        refine ga_goto 81 dX10_boats_48 (by decide) ?_
        refine gs_istore [(0, _), (1, _), (2, _), (3, _), (4, _)] dX10_boats_81 (by decide) rfl rfl ?_
        refine ga_iload_n 2 dX10_boats_83 rfl ?_
        refine ga_iload 4 dX10_boats_84 rfl ?_
        refine ga_if_eq 95 dX10_boats_86 (by decide) (fun c_86 => absurd c_86 (by decide)) (fun c_86 => ?_)
        refine ga_iconst (nI 1) dX10_boats_89 (by decide) ?_
        refine ga_iload_n 3 dX10_boats_90 rfl ?_
        refine ga_ishl dX10_boats_91 ?_
        refine ga_goto 96 dX10_boats_92 (by decide) ?_
        refine ga_ior dX10_boats_96 ?_
        refine gs_istore_n [(0, _), (1, _), (2, _), (3, _), (4, _)] dX10_boats_97 (by decide) rfl rfl ?_
        refine gs_iincN 3 1 [(0, _), (1, _), (2, _), (3, _), (4, _)] dX10_boats_98 rfl (by decide) (by decide) rfl rfl ?_
        refine ga_goto 4 dX10_boats_101 (by decide) ?_
        refine ga_take 4 ?_
        have h9 := ih (t + 1) (by omega)
        first | (rw [gx_set_t (P := (fun b => gx_dep K V (V 4 b) < K 5 b)) hP] at h9; exact h9) | (rw [gx_set_f (P := (fun b => gx_dep K V (V 4 b) < K 5 b)) hP] at h9; rw [gx_or0]; exact h9)
  exact loop (K 0 3) 0 (by omega)
set_option maxRecDepth 100000 in
set_option maxHeartbeats 4000000 in
theorem c_X10_boats0 {l : Launch} {G : gt_G} {n : Nat} {w : gt_W} {K V : gx_K} {m : Int32} (hM : gx_mc (w 162) K) (kw : gx_KW K) (hV : gx_ms (w 164) K V m) (vw : gx_VW K V) : gt_C l G yX10_boats cX10_boats 5 (some .int) 5 0 0 n [.ref 161, .int (nI 0)] (gt_enc w) (some (.int (gx_set (fun b => V 4 b = K 7 b) (K 0 3)))) (gt_enc (w)) := by
  refine gt_C_of (own := RX10) (nm := "boats") rfl rfl (by decide +kernel) (Nat.le_of_ble_eq_true rfl) ?_
  show gt_A _ _ _ _ _ _ _ _ _ _ _ [(0, .ref 161), (1, .int (nI 0))] _ _
  refine ga_iconst (nI 0) dX10_boats_0 (by decide) ?_
  refine gs_istore_n [(0, _), (1, _), (2, _)] dX10_boats_1 (by decide) rfl rfl ?_
  refine ga_iconst (nI 0) dX10_boats_2 (by decide) ?_
  refine gs_istore_n [(0, _), (1, _), (2, _), (3, _)] dX10_boats_3 (by decide) rfl rfl ?_
  have loop : ∀ j t, t + j = K 0 3 → gt_A l G RX10 "boats" cX10_boats 5 (some .int) (gt_rm 5 0 0) (gt_Z G (n + 0) 0 0 (some (.int (gx_set (fun b => V 4 b = K 7 b) (K 0 3)))) (gt_enc (w))) (n, 0, 0) 4 [(0, .ref 161), (1, .int (nI 0)), (2, .int (gx_set (fun b => V 4 b = K 7 b) t)), (3, .int (nI t))] [] (gt_enc w) := by
    intro j
    induction j with
    | zero =>
      intro t ht
      have et : t = K 0 3 := by omega
      refine ga_iload_n 3 dX10_boats_4 rfl ?_
      refine ga_aload_n 0 dX10_boats_5 rfl ?_
      refine ga_get kf_X10_7 (sh161 _) rfl dX10_boats_6 ?_
      refine ga_iconst (nI 3) dX10_boats_9 (by decide) ?_
      refine gm_c3 hM dX10_boats_10 ?_
      refine ga_icmp_ge 104 dX10_boats_11 (by decide) (fun c_11 => ?_) (fun c_11 => absurd (nI_le (by omega) (by have := kw.2.2.2.1; omega)) c_11)
      refine ga_iload_n 2 dX10_boats_104 rfl ?_
      exact ga_iret dX10_boats_105 (gv (by rw [et])) rfl
    | succ j ih =>
      intro t ht
      refine ga_iload_n 3 dX10_boats_4 rfl ?_
      refine ga_aload_n 0 dX10_boats_5 rfl ?_
      refine ga_get kf_X10_7 (sh161 _) rfl dX10_boats_6 ?_
      refine ga_iconst (nI 3) dX10_boats_9 (by decide) ?_
      refine gm_c3 hM dX10_boats_10 ?_
      refine ga_icmp_ge 104 dX10_boats_11 (by decide) (fun c_11 => absurd c_11 (nI_ge (by omega) (by have := kw.2.2.2.1; omega))) (fun c_11 => ?_)
      refine ga_iload_n 1 dX10_boats_14 rfl ?_
      refine ga_if_eq 55 dX10_boats_15 (by decide) (fun c_15 => ?_) (fun c_15 => absurd nI_0 c_15)
      refine ga_aload_n 0 dX10_boats_55 rfl ?_
      refine ga_get kf_X10_16 (sh161 _) rfl dX10_boats_56 ?_
      refine ga_bipush (nI 19) dX10_boats_59 (by decide) ?_
      refine ga_iload_n 3 dX10_boats_61 rfl ?_
      refine ga_iadd dX10_boats_62 ?_
      refine gm_S4 sh164 hV kw (by omega) dX10_boats_63 ?_
      refine ga_aload_n 0 dX10_boats_64 rfl ?_
      refine ga_get kf_X10_7 (sh161 _) rfl dX10_boats_65 ?_
      refine ga_bipush (nI 40) dX10_boats_68 (by decide) ?_
      refine ga_iload_n 3 dX10_boats_70 rfl ?_
      refine ga_iadd dX10_boats_71 ?_
      refine gm_C7 hM kw (by omega) dX10_boats_72 ?_
      refine ga_icmp_ne 80 dX10_boats_73 (by decide) (fun c_73 => ?_) (fun c_73 => ?_)
      · have hP : ¬ V 4 t = K 7 t := fun q => c_73 (by rw [q])
        refine ga_iconst (nI 0) dX10_boats_80 (by decide) ?_
        refine gs_istore [(0, _), (1, _), (2, _), (3, _), (4, _)] dX10_boats_81 (by decide) rfl rfl ?_
        refine ga_iload_n 2 dX10_boats_83 rfl ?_
        refine ga_iload 4 dX10_boats_84 rfl ?_
        refine ga_if_eq 95 dX10_boats_86 (by decide) (fun c_86 => ?_) (fun c_86 => absurd nI_0 c_86)
        refine ga_iconst (nI 0) dX10_boats_95 (by decide) ?_
        refine ga_ior dX10_boats_96 ?_
        refine gs_istore_n [(0, _), (1, _), (2, _), (3, _), (4, _)] dX10_boats_97 (by decide) rfl rfl ?_
        refine gs_iincN 3 1 [(0, _), (1, _), (2, _), (3, _), (4, _)] dX10_boats_98 rfl (by decide) (by decide) rfl rfl ?_
        refine ga_goto 4 dX10_boats_101 (by decide) ?_
        refine ga_take 4 ?_
        have h9 := ih (t + 1) (by omega)
        first | (rw [gx_set_t (P := (fun b => V 4 b = K 7 b)) hP] at h9; exact h9) | (rw [gx_set_f (P := (fun b => V 4 b = K 7 b)) hP] at h9; rw [gx_or0]; exact h9)
      · have hP : V 4 t = K 7 t := (nI_eq (by have := vw.2.2.2.2 t (by omega); have := kw.1; omega) (by have := kw.2.2.2.2.2.2.2.2.2.2.1 t (by omega); have := kw.1; omega)).mp c_73
        refine ga_iconst (nI 1) dX10_boats_76 (by decide) ?_
        refine ga_goto 81 dX10_boats_77 (by decide) ?_
        refine gs_istore [(0, _), (1, _), (2, _), (3, _), (4, _)] dX10_boats_81 (by decide) rfl rfl ?_
        refine ga_iload_n 2 dX10_boats_83 rfl ?_
        refine ga_iload 4 dX10_boats_84 rfl ?_
        refine ga_if_eq 95 dX10_boats_86 (by decide) (fun c_86 => absurd c_86 (by decide)) (fun c_86 => ?_)
        refine ga_iconst (nI 1) dX10_boats_89 (by decide) ?_
        refine ga_iload_n 3 dX10_boats_90 rfl ?_
        refine ga_ishl dX10_boats_91 ?_
        refine ga_goto 96 dX10_boats_92 (by decide) ?_
        refine ga_ior dX10_boats_96 ?_
        refine gs_istore_n [(0, _), (1, _), (2, _), (3, _), (4, _)] dX10_boats_97 (by decide) rfl rfl ?_
        refine gs_iincN 3 1 [(0, _), (1, _), (2, _), (3, _), (4, _)] dX10_boats_98 rfl (by decide) (by decide) rfl rfl ?_
        refine ga_goto 4 dX10_boats_101 (by decide) ?_
        refine ga_take 4 ?_
        have h9 := ih (t + 1) (by omega)
        first | (rw [gx_set_t (P := (fun b => V 4 b = K 7 b)) hP] at h9; exact h9) | (rw [gx_set_f (P := (fun b => V 4 b = K 7 b)) hP] at h9; rw [gx_or0]; exact h9)
  exact loop (K 0 3) 0 (by omega)
/-- many of f from i on, into g from j on -/
def gx_cp (f g : Nat → Int32) (i j n : Nat) : Nat → Int32 := fun q => if j ≤ q ∧ q < j + n then f (i + (q - j)) else g q
theorem gx_cp_0 (f g : Nat → Int32) (i j : Nat) : gx_cp f g i j 0 = g := by
  funext q
  unfold gx_cp
  rw [if_neg (by omega)]
theorem gx_cp_s (f g : Nat → Int32) (i j n : Nat) : upd (gx_cp f g i j n) (j + n) (f (i + n)) = gx_cp f g i j (n + 1) := by
  funext q
  unfold upd gx_cp
  by_cases e : q = j + n
  · rw [if_pos e, if_pos (by omega), e, Nat.add_sub_cancel_left]
  · rw [if_neg e]
    by_cases e2 : j ≤ q ∧ q < j + n
    · rw [if_pos e2, if_pos (by omega)]
    · rw [if_neg e2, if_neg (by omega)]
theorem gx_cp_in {f g : Nat → Int32} {i j n q : Nat} (h : q < n) : gx_cp f g i j n (j + q) = f (i + q) := by
  unfold gx_cp
  rw [if_pos (by omega), Nat.add_sub_cancel_left]
theorem gx_cp_out {f g : Nat → Int32} {i j n q : Nat} (h : q < j ∨ j + n ≤ q) : gx_cp f g i j n q = g q := by
  unfold gx_cp
  rw [if_neg (by omega)]
set_option maxRecDepth 100000 in
set_option maxHeartbeats 4000000 in
theorem c_X10_copies {l : Launch} {G : gt_G} {n : Nat} {w : gt_W} {a b i j N nA nB : Nat} (ha : ∀ r, gt_sh a r = some (oI nA r)) (hb : ∀ r, gt_sh b r = some (oI nB r)) (hab : a ≠ b) (h1 : i + N ≤ nA) (h2 : j + N ≤ nB) (hA : nA < 10000) (hB : nB < 10000) : gt_C l G yX10_copies cX10_copies 6 none 1 0 0 n [.ref a, .int (nI i), .ref b, .int (nI j), .int (nI N)] (gt_enc w) (none) (gt_enc (gt_wr w b (gx_cp (w a) (w b) i j N))) := by
  refine gt_C_of (own := RX10) (nm := "copies") rfl rfl (by decide +kernel) (Nat.le_of_ble_eq_true rfl) ?_
  show gt_A _ _ _ _ _ _ _ _ _ _ _ [(0, .ref a), (1, .int (nI i)), (2, .ref b), (3, .int (nI j)), (4, .int (nI N))] _ _
  refine ga_iconst (nI 0) dX10_copies_0 (by decide) ?_
  refine gs_istore [(0, _), (1, _), (2, _), (3, _), (4, _), (5, _)] dX10_copies_1 (by decide) rfl rfl ?_
  have loop : ∀ k9 t, t + k9 = N → gt_A l G RX10 "copies" cX10_copies 6 none (gt_rm 1 0 0) (gt_Z G (n + 0) 0 0 (none) (gt_enc (gt_wr w b (gx_cp (w a) (w b) i j N)))) (n, 0, 0) 3 [(0, .ref a), (1, .int (nI i)), (2, .ref b), (3, .int (nI j)), (4, .int (nI N)), (5, .int (nI t))] [] (gt_enc (gt_wr w b (gx_cp (w a) (w b) i j t))) := by
    intro k9
    induction k9 with
    | zero =>
      intro t ht
      have et : t = N := by omega
      rw [et]
      refine ga_iload 5 dX10_copies_3 rfl ?_
      refine ga_iload 4 dX10_copies_5 rfl ?_
      refine ga_icmp_ge 28 dX10_copies_7 (by decide) (fun c_7 => ?_) (fun c_7 => absurd (nI_le (by omega) (by omega)) c_7)
      exact ga_vret dX10_copies_28 rfl (fun _ _ q => q)
    | succ k9 ih =>
      intro t ht
      refine ga_iload 5 dX10_copies_3 rfl ?_
      refine ga_iload 4 dX10_copies_5 rfl ?_
      refine ga_icmp_ge 28 dX10_copies_7 (by decide) (fun c_7 => absurd c_7 (nI_ge (by omega) (by omega))) (fun c_7 => ?_)
      refine ga_aload_n 2 dX10_copies_10 rfl ?_
      refine ga_iload_n 3 dX10_copies_11 rfl ?_
      refine ga_iload 5 dX10_copies_12 rfl ?_
      refine ga_iadd dX10_copies_14 ?_
      refine ga_aload_n 0 dX10_copies_15 rfl ?_
      refine ga_iload_n 1 dX10_copies_16 rfl ?_
      refine ga_iload 5 dX10_copies_17 rfl ?_
      refine ga_iadd dX10_copies_19 ?_
      refine ge_ialdE ha (gt_ixe (nI_add i t) (by omega) (by omega)) (show gt_wr w b (gx_cp (w a) (w b) i j t) a (i + t) = w a (i + t) by rw [gt_wr_ne _ _ hab]) dX10_copies_20 ?_
      refine ge_iast hb (gt_ixe (nI_add j t) (by omega) (by omega)) dX10_copies_21 ?_
      refine gs_iincN 5 1 [(0, _), (1, _), (2, _), (3, _), (4, _), (5, _)] dX10_copies_22 rfl (by decide) (by decide) rfl rfl ?_
      refine ga_goto 3 dX10_copies_25 (by decide) ?_
      rw [gt_wr_eq, gt_wr_wr, gx_cp_s]
      exact ih (t + 1) (by omega)
  have h9 := loop N 0 (by omega)
  rw [gx_cp_0, gt_wr_self] at h9
  exact h9
