set_option maxRecDepth 100000 in
set_option maxHeartbeats 4000000 in
theorem c_X3_addMark_full {l : Launch} {G : gt_G} {n : Nat} {w : gt_W} {x0 x1 x2 : Int32} {Q : gx_K} (hQ : gx_No w Q) (hm : Q 0 0 = 6) : gt_C l G yX3_addMark cX3_addMark 4 (some .int) 1 0 0 n [.ref 114, .int x0, .int x1, .int x2] (gt_enc w) (some (.int (-1000000004))) (gt_enc (w)) := by
  refine gt_C_of (own := RX3) (nm := "addMark") rfl rfl (by decide +kernel) (Nat.le_of_ble_eq_true rfl) ?_
  show gt_A _ _ _ _ _ _ _ _ _ _ _ [(0, .ref 114), (1, .int x0), (2, .int x1), (3, .int x2)] _ _
  refine ga_aload_n 0 dX3_addMark_0 rfl ?_
  refine ga_get kf_X3_36 (sh114 _) (gv hQ.1.1) dX3_addMark_1 ?_
  refine ga_bipush (nI 6) dX3_addMark_4 (by decide) ?_
  refine ga_icmp_lt 12 dX3_addMark_6 (by decide) (fun c_6 => absurd c_6 (by rw [hm]; decide)) (fun c_6 => ?_)
  refine ga_ldc kc_X3_46 dX3_addMark_9 ?_
  exact ga_iret dX3_addMark_11 rfl rfl
set_option maxRecDepth 100000 in
set_option maxHeartbeats 4000000 in
theorem c_X3_addSeen_full {l : Launch} {G : gt_G} {n : Nat} {w : gt_W} {x0 x1 x2 : Int32} {Q : gx_K} (hQ : gx_No w Q) (hm : Q 0 1 = 6) : gt_C l G yX3_addSeen cX3_addSeen 4 (some .int) 1 0 0 n [.ref 114, .int x0, .int x1, .int x2] (gt_enc w) (some (.int (-1000000004))) (gt_enc (w)) := by
  refine gt_C_of (own := RX3) (nm := "addSeen") rfl rfl (by decide +kernel) (Nat.le_of_ble_eq_true rfl) ?_
  show gt_A _ _ _ _ _ _ _ _ _ _ _ [(0, .ref 114), (1, .int x0), (2, .int x1), (3, .int x2)] _ _
  refine ga_aload_n 0 dX3_addSeen_0 rfl ?_
  refine ga_get kf_X3_40 (sh114 _) (gv hQ.1.2.1) dX3_addSeen_1 ?_
  refine ga_bipush (nI 6) dX3_addSeen_4 (by decide) ?_
  refine ga_icmp_lt 12 dX3_addSeen_6 (by decide) (fun c_6 => absurd c_6 (by rw [hm]; decide)) (fun c_6 => ?_)
  refine ga_ldc kc_X3_46 dX3_addSeen_9 ?_
  exact ga_iret dX3_addSeen_11 rfl rfl
set_option maxRecDepth 100000 in
set_option maxHeartbeats 4000000 in
theorem c_X3_addEntry_full {l : Launch} {G : gt_G} {n : Nat} {w : gt_W} {x0 x1 : Int32} {Q : gx_K} (hQ : gx_No w Q) (hm : Q 0 2 = 15) : gt_C l G yX3_addEntry cX3_addEntry 3 (some .int) 1 0 0 n [.ref 114, .int x0, .int x1] (gt_enc w) (some (.int (-1000000004))) (gt_enc (w)) := by
  refine gt_C_of (own := RX3) (nm := "addEntry") rfl rfl (by decide +kernel) (Nat.le_of_ble_eq_true rfl) ?_
  show gt_A _ _ _ _ _ _ _ _ _ _ _ [(0, .ref 114), (1, .int x0), (2, .int x1)] _ _
  refine ga_aload_n 0 dX3_addEntry_0 rfl ?_
  refine ga_get kf_X3_43 (sh114 _) (gv hQ.1.2.2) dX3_addEntry_1 ?_
  refine ga_bipush (nI 15) dX3_addEntry_4 (by decide) ?_
  refine ga_icmp_lt 12 dX3_addEntry_6 (by decide) (fun c_6 => absurd c_6 (by rw [hm]; decide)) (fun c_6 => ?_)
  refine ga_ldc kc_X3_46 dX3_addEntry_9 ?_
  exact ga_iret dX3_addEntry_11 rfl rfl
set_option maxRecDepth 100000 in
set_option maxHeartbeats 4000000 in
theorem c_X3_addMark {l : Launch} {G : gt_G} {n : Nat} {w : gt_W} {x0 x1 x2 : Nat} {K Q : gx_K} (hQ : gx_No w Q) (qw : gx_QW K Q) (hm : Q 0 0 < 6) : gt_D l G yX3_addMark cX3_addMark 4 (some .int) 1 n [.ref 114, .int (nI x0), .int (nI x1), .int (nI x2)] w (fun r w' => r = some (.int (nI (Q 0 0 + 1))) ∧ (∀ a, (a < 114 ∨ 123 ≤ a) → w' a = w a) ∧ gx_No w' (gx_up (gx_up (gx_up (gx_up Q 0 0 (Q 0 0 + 1)) 1 (Q 0 0) x0) 2 (Q 0 0) x1) 3 (Q 0 0) x2)) := by
  refine gt_D_of (own := RX3) (nm := "addMark") rfl rfl (by decide +kernel) (Nat.le_of_ble_eq_true rfl) ?_
  show gt_A _ _ _ _ _ _ _ _ _ _ _ [(0, .ref 114), (1, .int (nI x0)), (2, .int (nI x1)), (3, .int (nI x2))] _ _
  refine ga_aload_n 0 dX3_addMark_0 rfl ?_
  refine ga_get kf_X3_36 (sh114 _) (gv hQ.1.1) dX3_addMark_1 ?_
  refine ga_bipush (nI 6) dX3_addMark_4 (by decide) ?_
  refine ga_icmp_lt 12 dX3_addMark_6 (by decide) (fun c_6 => ?_) (fun c_6 => absurd (nI_lt hm (by omega)) c_6)
  refine ga_aload_n 0 dX3_addMark_12 rfl ?_
  refine ga_get kf_X3_9 (sh114 _) rfl dX3_addMark_13 ?_
  refine ga_aload_n 0 dX3_addMark_16 rfl ?_
  refine ga_get kf_X3_36 (sh114 _) (gvv (nI (Q 0 0)) (by rw [hQ.1.1])) dX3_addMark_17 ?_
  refine ga_iload_n 1 dX3_addMark_20 rfl ?_
  refine gw_iast (sh115) (gt_ixn (by omega)) dX3_addMark_21 (fun w_21 o_21 e_21 => ?_)
  refine ga_aload_n 0 dX3_addMark_22 rfl ?_
  refine ga_get kf_X3_15 (sh114 _) rfl dX3_addMark_23 ?_
  refine ga_aload_n 0 dX3_addMark_26 rfl ?_
  refine ga_get kf_X3_36 (sh114 _) (gvv (nI (Q 0 0)) (by rw [o_21 114 (by decide), hQ.1.1])) dX3_addMark_27 ?_
  refine ga_iload_n 2 dX3_addMark_30 rfl ?_
  refine gw_iast (sh116) (gt_ixn (by omega)) dX3_addMark_31 (fun w_31 o_31 e_31 => ?_)
  refine ga_aload_n 0 dX3_addMark_32 rfl ?_
  refine ga_get kf_X3_18 (sh114 _) rfl dX3_addMark_33 ?_
  refine ga_aload_n 0 dX3_addMark_36 rfl ?_
  refine ga_get kf_X3_36 (sh114 _) (gvv (nI (Q 0 0)) (by rw [o_31 114 (by decide), o_21 114 (by decide), hQ.1.1])) dX3_addMark_37 ?_
  refine ga_iload_n 3 dX3_addMark_40 rfl ?_
  refine gw_iast (sh117) (gt_ixn (by omega)) dX3_addMark_41 (fun w_41 o_41 e_41 => ?_)
  refine ga_aload_n 0 dX3_addMark_42 rfl ?_
  refine ga_dup dX3_addMark_43 rfl ?_
  refine ga_get kf_X3_36 (sh114 _) (gvv (nI (Q 0 0)) (by rw [o_41 114 (by decide), o_31 114 (by decide), o_21 114 (by decide), hQ.1.1])) dX3_addMark_44 ?_
  refine ga_iconst (nI 1) dX3_addMark_47 (by decide) ?_
  refine ga_iadd dX3_addMark_48 ?_
  refine ga_top (nI (Q 0 0 + 1)) (nI_add _ 1) ?_
  refine gw_put 0 kp_X3_36 (sh114 _) (sh114 _) rfl rfl (Nat.le_of_ble_eq_true rfl) dX3_addMark_49 (fun w_49 o_49 e_49 => ?_)
  refine ga_aload_n 0 dX3_addMark_52 rfl ?_
  refine ga_get kf_X3_36 (sh114 _) (gvv (nI (Q 0 0 + 1)) (by rw [e_49, upd_eq])) dX3_addMark_53 ?_
  refine gd_iret dX3_addMark_56 ⟨rfl, fun a h3 => by rw [o_49 a (by omega), o_41 a (by omega), o_31 a (by omega), o_21 a (by omega)], ?_⟩
  obtain ⟨⟨q0, q1, q2⟩, r1, r2, r3, r4, r5, r6, r7, r8⟩ := hQ
  refine ⟨⟨?_, ?_, ?_⟩, fun j hj => ?_, fun j hj => ?_, fun j hj => ?_, fun j hj => ?_, fun j hj => ?_, fun j hj => ?_, fun j hj => ?_, fun j hj => ?_⟩
  · rw [e_49, upd_eq, gx_up_row (by decide), gx_up_row (by decide), gx_up_row (by decide), gx_up_eq]
  · rw [e_49, upd_ne _ _ (by decide), o_41 114 (by omega), o_31 114 (by omega), o_21 114 (by omega), gx_up_row (by decide), gx_up_row (by decide), gx_up_row (by decide), gx_up_col (by decide)]; exact q1
  · rw [e_49, upd_ne _ _ (by decide), o_41 114 (by omega), o_31 114 (by omega), o_21 114 (by omega), gx_up_row (by decide), gx_up_row (by decide), gx_up_row (by decide), gx_up_col (by decide)]; exact q2
  · have hj2 : j < Q 0 0 + 1 := by rw [gx_up_row (by decide), gx_up_row (by decide), gx_up_row (by decide), gx_up_eq] at hj; exact hj
    rw [o_49 115 (by omega), o_41 115 (by omega), o_31 115 (by omega), e_21, gx_up_row (by decide), gx_up_row (by decide)]
    by_cases e : j = Q 0 0
    · rw [e, upd_eq, gx_up_eq]
    · rw [upd_ne _ _ e, gx_up_col e, gx_up_row (by decide)]; exact r1 j (by omega)
  · have hj2 : j < Q 0 0 + 1 := by rw [gx_up_row (by decide), gx_up_row (by decide), gx_up_row (by decide), gx_up_eq] at hj; exact hj
    rw [o_49 116 (by omega), o_41 116 (by omega), e_31, gx_up_row (by decide)]
    by_cases e : j = Q 0 0
    · rw [e, upd_eq, gx_up_eq]
    · rw [upd_ne _ _ e, gx_up_col e, gx_up_row (by decide), gx_up_row (by decide), o_21 116 (by omega)]; exact r2 j (by omega)
  · have hj2 : j < Q 0 0 + 1 := by rw [gx_up_row (by decide), gx_up_row (by decide), gx_up_row (by decide), gx_up_eq] at hj; exact hj
    rw [o_49 117 (by omega), e_41]
    by_cases e : j = Q 0 0
    · rw [e, upd_eq, gx_up_eq]
    · rw [upd_ne _ _ e, gx_up_col e, gx_up_row (by decide), gx_up_row (by decide), gx_up_row (by decide), o_31 117 (by omega), o_21 117 (by omega)]; exact r3 j (by omega)
  · have hj2 : j < Q 0 1 := by rw [gx_up_row (by decide), gx_up_row (by decide), gx_up_row (by decide), gx_up_col (by decide)] at hj; exact hj
    rw [o_49 118 (by omega), o_41 118 (by omega), o_31 118 (by omega), o_21 118 (by omega), gx_up_row (by decide), gx_up_row (by decide), gx_up_row (by decide), gx_up_row (by decide)]; exact r4 j hj2
  · have hj2 : j < Q 0 1 := by rw [gx_up_row (by decide), gx_up_row (by decide), gx_up_row (by decide), gx_up_col (by decide)] at hj; exact hj
    rw [o_49 119 (by omega), o_41 119 (by omega), o_31 119 (by omega), o_21 119 (by omega), gx_up_row (by decide), gx_up_row (by decide), gx_up_row (by decide), gx_up_row (by decide)]; exact r5 j hj2
  · have hj2 : j < Q 0 1 := by rw [gx_up_row (by decide), gx_up_row (by decide), gx_up_row (by decide), gx_up_col (by decide)] at hj; exact hj
    rw [o_49 120 (by omega), o_41 120 (by omega), o_31 120 (by omega), o_21 120 (by omega), gx_up_row (by decide), gx_up_row (by decide), gx_up_row (by decide), gx_up_row (by decide)]; exact r6 j hj2
  · have hj2 : j < Q 0 2 := by rw [gx_up_row (by decide), gx_up_row (by decide), gx_up_row (by decide), gx_up_col (by decide)] at hj; exact hj
    rw [o_49 121 (by omega), o_41 121 (by omega), o_31 121 (by omega), o_21 121 (by omega), gx_up_row (by decide), gx_up_row (by decide), gx_up_row (by decide), gx_up_row (by decide)]; exact r7 j hj2
  · have hj2 : j < Q 0 2 := by rw [gx_up_row (by decide), gx_up_row (by decide), gx_up_row (by decide), gx_up_col (by decide)] at hj; exact hj
    rw [o_49 122 (by omega), o_41 122 (by omega), o_31 122 (by omega), o_21 122 (by omega), gx_up_row (by decide), gx_up_row (by decide), gx_up_row (by decide), gx_up_row (by decide)]; exact r8 j hj2
set_option maxRecDepth 100000 in
set_option maxHeartbeats 4000000 in
theorem c_X3_addSeen {l : Launch} {G : gt_G} {n : Nat} {w : gt_W} {x0 x1 x2 : Nat} {K Q : gx_K} (hQ : gx_No w Q) (qw : gx_QW K Q) (hm : Q 0 1 < 6) : gt_D l G yX3_addSeen cX3_addSeen 4 (some .int) 1 n [.ref 114, .int (nI x0), .int (nI x1), .int (nI x2)] w (fun r w' => r = some (.int (nI (Q 0 1 + 1))) ∧ (∀ a, (a < 114 ∨ 123 ≤ a) → w' a = w a) ∧ gx_No w' (gx_up (gx_up (gx_up (gx_up Q 0 1 (Q 0 1 + 1)) 4 (Q 0 1) x0) 5 (Q 0 1) x1) 6 (Q 0 1) x2)) := by
  refine gt_D_of (own := RX3) (nm := "addSeen") rfl rfl (by decide +kernel) (Nat.le_of_ble_eq_true rfl) ?_
  show gt_A _ _ _ _ _ _ _ _ _ _ _ [(0, .ref 114), (1, .int (nI x0)), (2, .int (nI x1)), (3, .int (nI x2))] _ _
  refine ga_aload_n 0 dX3_addSeen_0 rfl ?_
  refine ga_get kf_X3_40 (sh114 _) (gv hQ.1.2.1) dX3_addSeen_1 ?_
  refine ga_bipush (nI 6) dX3_addSeen_4 (by decide) ?_
  refine ga_icmp_lt 12 dX3_addSeen_6 (by decide) (fun c_6 => ?_) (fun c_6 => absurd (nI_lt hm (by omega)) c_6)
  refine ga_aload_n 0 dX3_addSeen_12 rfl ?_
  refine ga_get kf_X3_21 (sh114 _) rfl dX3_addSeen_13 ?_
  refine ga_aload_n 0 dX3_addSeen_16 rfl ?_
  refine ga_get kf_X3_40 (sh114 _) (gvv (nI (Q 0 1)) (by rw [hQ.1.2.1])) dX3_addSeen_17 ?_
  refine ga_iload_n 1 dX3_addSeen_20 rfl ?_
  refine gw_iast (sh118) (gt_ixn (by omega)) dX3_addSeen_21 (fun w_21 o_21 e_21 => ?_)
  refine ga_aload_n 0 dX3_addSeen_22 rfl ?_
  refine ga_get kf_X3_24 (sh114 _) rfl dX3_addSeen_23 ?_
  refine ga_aload_n 0 dX3_addSeen_26 rfl ?_
  refine ga_get kf_X3_40 (sh114 _) (gvv (nI (Q 0 1)) (by rw [o_21 114 (by decide), hQ.1.2.1])) dX3_addSeen_27 ?_
  refine ga_iload_n 2 dX3_addSeen_30 rfl ?_
  refine gw_iast (sh119) (gt_ixn (by omega)) dX3_addSeen_31 (fun w_31 o_31 e_31 => ?_)
  refine ga_aload_n 0 dX3_addSeen_32 rfl ?_
  refine ga_get kf_X3_27 (sh114 _) rfl dX3_addSeen_33 ?_
  refine ga_aload_n 0 dX3_addSeen_36 rfl ?_
  refine ga_get kf_X3_40 (sh114 _) (gvv (nI (Q 0 1)) (by rw [o_31 114 (by decide), o_21 114 (by decide), hQ.1.2.1])) dX3_addSeen_37 ?_
  refine ga_iload_n 3 dX3_addSeen_40 rfl ?_
  refine gw_iast (sh120) (gt_ixn (by omega)) dX3_addSeen_41 (fun w_41 o_41 e_41 => ?_)
  refine ga_aload_n 0 dX3_addSeen_42 rfl ?_
  refine ga_dup dX3_addSeen_43 rfl ?_
  refine ga_get kf_X3_40 (sh114 _) (gvv (nI (Q 0 1)) (by rw [o_41 114 (by decide), o_31 114 (by decide), o_21 114 (by decide), hQ.1.2.1])) dX3_addSeen_44 ?_
  refine ga_iconst (nI 1) dX3_addSeen_47 (by decide) ?_
  refine ga_iadd dX3_addSeen_48 ?_
  refine ga_top (nI (Q 0 1 + 1)) (nI_add _ 1) ?_
  refine gw_put 1 kp_X3_40 (sh114 _) (sh114 _) rfl rfl (Nat.le_of_ble_eq_true rfl) dX3_addSeen_49 (fun w_49 o_49 e_49 => ?_)
  refine ga_aload_n 0 dX3_addSeen_52 rfl ?_
  refine ga_get kf_X3_40 (sh114 _) (gvv (nI (Q 0 1 + 1)) (by rw [e_49, upd_eq])) dX3_addSeen_53 ?_
  refine gd_iret dX3_addSeen_56 ⟨rfl, fun a h3 => by rw [o_49 a (by omega), o_41 a (by omega), o_31 a (by omega), o_21 a (by omega)], ?_⟩
  obtain ⟨⟨q0, q1, q2⟩, r1, r2, r3, r4, r5, r6, r7, r8⟩ := hQ
  refine ⟨⟨?_, ?_, ?_⟩, fun j hj => ?_, fun j hj => ?_, fun j hj => ?_, fun j hj => ?_, fun j hj => ?_, fun j hj => ?_, fun j hj => ?_, fun j hj => ?_⟩
  · rw [e_49, upd_ne _ _ (by decide), o_41 114 (by omega), o_31 114 (by omega), o_21 114 (by omega), gx_up_row (by decide), gx_up_row (by decide), gx_up_row (by decide), gx_up_col (by decide)]; exact q0
  · rw [e_49, upd_eq, gx_up_row (by decide), gx_up_row (by decide), gx_up_row (by decide), gx_up_eq]
  · rw [e_49, upd_ne _ _ (by decide), o_41 114 (by omega), o_31 114 (by omega), o_21 114 (by omega), gx_up_row (by decide), gx_up_row (by decide), gx_up_row (by decide), gx_up_col (by decide)]; exact q2
  · have hj2 : j < Q 0 0 := by rw [gx_up_row (by decide), gx_up_row (by decide), gx_up_row (by decide), gx_up_col (by decide)] at hj; exact hj
    rw [o_49 115 (by omega), o_41 115 (by omega), o_31 115 (by omega), o_21 115 (by omega), gx_up_row (by decide), gx_up_row (by decide), gx_up_row (by decide), gx_up_row (by decide)]; exact r1 j hj2
  · have hj2 : j < Q 0 0 := by rw [gx_up_row (by decide), gx_up_row (by decide), gx_up_row (by decide), gx_up_col (by decide)] at hj; exact hj
    rw [o_49 116 (by omega), o_41 116 (by omega), o_31 116 (by omega), o_21 116 (by omega), gx_up_row (by decide), gx_up_row (by decide), gx_up_row (by decide), gx_up_row (by decide)]; exact r2 j hj2
  · have hj2 : j < Q 0 0 := by rw [gx_up_row (by decide), gx_up_row (by decide), gx_up_row (by decide), gx_up_col (by decide)] at hj; exact hj
    rw [o_49 117 (by omega), o_41 117 (by omega), o_31 117 (by omega), o_21 117 (by omega), gx_up_row (by decide), gx_up_row (by decide), gx_up_row (by decide), gx_up_row (by decide)]; exact r3 j hj2
  · have hj2 : j < Q 0 1 + 1 := by rw [gx_up_row (by decide), gx_up_row (by decide), gx_up_row (by decide), gx_up_eq] at hj; exact hj
    rw [o_49 118 (by omega), o_41 118 (by omega), o_31 118 (by omega), e_21, gx_up_row (by decide), gx_up_row (by decide)]
    by_cases e : j = Q 0 1
    · rw [e, upd_eq, gx_up_eq]
    · rw [upd_ne _ _ e, gx_up_col e, gx_up_row (by decide)]; exact r4 j (by omega)
  · have hj2 : j < Q 0 1 + 1 := by rw [gx_up_row (by decide), gx_up_row (by decide), gx_up_row (by decide), gx_up_eq] at hj; exact hj
    rw [o_49 119 (by omega), o_41 119 (by omega), e_31, gx_up_row (by decide)]
    by_cases e : j = Q 0 1
    · rw [e, upd_eq, gx_up_eq]
    · rw [upd_ne _ _ e, gx_up_col e, gx_up_row (by decide), gx_up_row (by decide), o_21 119 (by omega)]; exact r5 j (by omega)
  · have hj2 : j < Q 0 1 + 1 := by rw [gx_up_row (by decide), gx_up_row (by decide), gx_up_row (by decide), gx_up_eq] at hj; exact hj
    rw [o_49 120 (by omega), e_41]
    by_cases e : j = Q 0 1
    · rw [e, upd_eq, gx_up_eq]
    · rw [upd_ne _ _ e, gx_up_col e, gx_up_row (by decide), gx_up_row (by decide), gx_up_row (by decide), o_31 120 (by omega), o_21 120 (by omega)]; exact r6 j (by omega)
  · have hj2 : j < Q 0 2 := by rw [gx_up_row (by decide), gx_up_row (by decide), gx_up_row (by decide), gx_up_col (by decide)] at hj; exact hj
    rw [o_49 121 (by omega), o_41 121 (by omega), o_31 121 (by omega), o_21 121 (by omega), gx_up_row (by decide), gx_up_row (by decide), gx_up_row (by decide), gx_up_row (by decide)]; exact r7 j hj2
  · have hj2 : j < Q 0 2 := by rw [gx_up_row (by decide), gx_up_row (by decide), gx_up_row (by decide), gx_up_col (by decide)] at hj; exact hj
    rw [o_49 122 (by omega), o_41 122 (by omega), o_31 122 (by omega), o_21 122 (by omega), gx_up_row (by decide), gx_up_row (by decide), gx_up_row (by decide), gx_up_row (by decide)]; exact r8 j hj2
set_option maxRecDepth 100000 in
set_option maxHeartbeats 4000000 in
theorem c_X3_addEntry {l : Launch} {G : gt_G} {n : Nat} {w : gt_W} {x0 x1 : Nat} {K Q : gx_K} (hQ : gx_No w Q) (qw : gx_QW K Q) (hm : Q 0 2 < 15) : gt_D l G yX3_addEntry cX3_addEntry 3 (some .int) 1 n [.ref 114, .int (nI x0), .int (nI x1)] w (fun r w' => r = some (.int (nI (Q 0 2 + 1))) ∧ (∀ a, (a < 114 ∨ 123 ≤ a) → w' a = w a) ∧ gx_No w' (gx_up (gx_up (gx_up Q 0 2 (Q 0 2 + 1)) 7 (Q 0 2) x0) 8 (Q 0 2) x1)) := by
  refine gt_D_of (own := RX3) (nm := "addEntry") rfl rfl (by decide +kernel) (Nat.le_of_ble_eq_true rfl) ?_
  show gt_A _ _ _ _ _ _ _ _ _ _ _ [(0, .ref 114), (1, .int (nI x0)), (2, .int (nI x1))] _ _
  refine ga_aload_n 0 dX3_addEntry_0 rfl ?_
  refine ga_get kf_X3_43 (sh114 _) (gv hQ.1.2.2) dX3_addEntry_1 ?_
  refine ga_bipush (nI 15) dX3_addEntry_4 (by decide) ?_
  refine ga_icmp_lt 12 dX3_addEntry_6 (by decide) (fun c_6 => ?_) (fun c_6 => absurd (nI_lt hm (by omega)) c_6)
  refine ga_aload_n 0 dX3_addEntry_12 rfl ?_
  refine ga_get kf_X3_30 (sh114 _) rfl dX3_addEntry_13 ?_
  refine ga_aload_n 0 dX3_addEntry_16 rfl ?_
  refine ga_get kf_X3_43 (sh114 _) (gvv (nI (Q 0 2)) (by rw [hQ.1.2.2])) dX3_addEntry_17 ?_
  refine ga_iload_n 1 dX3_addEntry_20 rfl ?_
  refine gw_iast (sh121) (gt_ixn (by omega)) dX3_addEntry_21 (fun w_21 o_21 e_21 => ?_)
  refine ga_aload_n 0 dX3_addEntry_22 rfl ?_
  refine ga_get kf_X3_33 (sh114 _) rfl dX3_addEntry_23 ?_
  refine ga_aload_n 0 dX3_addEntry_26 rfl ?_
  refine ga_get kf_X3_43 (sh114 _) (gvv (nI (Q 0 2)) (by rw [o_21 114 (by decide), hQ.1.2.2])) dX3_addEntry_27 ?_
  refine ga_iload_n 2 dX3_addEntry_30 rfl ?_
  refine gw_iast (sh122) (gt_ixn (by omega)) dX3_addEntry_31 (fun w_31 o_31 e_31 => ?_)
  refine ga_aload_n 0 dX3_addEntry_32 rfl ?_
  refine ga_dup dX3_addEntry_33 rfl ?_
  refine ga_get kf_X3_43 (sh114 _) (gvv (nI (Q 0 2)) (by rw [o_31 114 (by decide), o_21 114 (by decide), hQ.1.2.2])) dX3_addEntry_34 ?_
  refine ga_iconst (nI 1) dX3_addEntry_37 (by decide) ?_
  refine ga_iadd dX3_addEntry_38 ?_
  refine ga_top (nI (Q 0 2 + 1)) (nI_add _ 1) ?_
  refine gw_put 2 kp_X3_43 (sh114 _) (sh114 _) rfl rfl (Nat.le_of_ble_eq_true rfl) dX3_addEntry_39 (fun w_39 o_39 e_39 => ?_)
  refine ga_aload_n 0 dX3_addEntry_42 rfl ?_
  refine ga_get kf_X3_43 (sh114 _) (gvv (nI (Q 0 2 + 1)) (by rw [e_39, upd_eq])) dX3_addEntry_43 ?_
  refine gd_iret dX3_addEntry_46 ⟨rfl, fun a h3 => by rw [o_39 a (by omega), o_31 a (by omega), o_21 a (by omega)], ?_⟩
  obtain ⟨⟨q0, q1, q2⟩, r1, r2, r3, r4, r5, r6, r7, r8⟩ := hQ
  refine ⟨⟨?_, ?_, ?_⟩, fun j hj => ?_, fun j hj => ?_, fun j hj => ?_, fun j hj => ?_, fun j hj => ?_, fun j hj => ?_, fun j hj => ?_, fun j hj => ?_⟩
  · rw [e_39, upd_ne _ _ (by decide), o_31 114 (by omega), o_21 114 (by omega), gx_up_row (by decide), gx_up_row (by decide), gx_up_col (by decide)]; exact q0
  · rw [e_39, upd_ne _ _ (by decide), o_31 114 (by omega), o_21 114 (by omega), gx_up_row (by decide), gx_up_row (by decide), gx_up_col (by decide)]; exact q1
  · rw [e_39, upd_eq, gx_up_row (by decide), gx_up_row (by decide), gx_up_eq]
  · have hj2 : j < Q 0 0 := by rw [gx_up_row (by decide), gx_up_row (by decide), gx_up_col (by decide)] at hj; exact hj
    rw [o_39 115 (by omega), o_31 115 (by omega), o_21 115 (by omega), gx_up_row (by decide), gx_up_row (by decide), gx_up_row (by decide)]; exact r1 j hj2
  · have hj2 : j < Q 0 0 := by rw [gx_up_row (by decide), gx_up_row (by decide), gx_up_col (by decide)] at hj; exact hj
    rw [o_39 116 (by omega), o_31 116 (by omega), o_21 116 (by omega), gx_up_row (by decide), gx_up_row (by decide), gx_up_row (by decide)]; exact r2 j hj2
  · have hj2 : j < Q 0 0 := by rw [gx_up_row (by decide), gx_up_row (by decide), gx_up_col (by decide)] at hj; exact hj
    rw [o_39 117 (by omega), o_31 117 (by omega), o_21 117 (by omega), gx_up_row (by decide), gx_up_row (by decide), gx_up_row (by decide)]; exact r3 j hj2
  · have hj2 : j < Q 0 1 := by rw [gx_up_row (by decide), gx_up_row (by decide), gx_up_col (by decide)] at hj; exact hj
    rw [o_39 118 (by omega), o_31 118 (by omega), o_21 118 (by omega), gx_up_row (by decide), gx_up_row (by decide), gx_up_row (by decide)]; exact r4 j hj2
  · have hj2 : j < Q 0 1 := by rw [gx_up_row (by decide), gx_up_row (by decide), gx_up_col (by decide)] at hj; exact hj
    rw [o_39 119 (by omega), o_31 119 (by omega), o_21 119 (by omega), gx_up_row (by decide), gx_up_row (by decide), gx_up_row (by decide)]; exact r5 j hj2
  · have hj2 : j < Q 0 1 := by rw [gx_up_row (by decide), gx_up_row (by decide), gx_up_col (by decide)] at hj; exact hj
    rw [o_39 120 (by omega), o_31 120 (by omega), o_21 120 (by omega), gx_up_row (by decide), gx_up_row (by decide), gx_up_row (by decide)]; exact r6 j hj2
  · have hj2 : j < Q 0 2 + 1 := by rw [gx_up_row (by decide), gx_up_row (by decide), gx_up_eq] at hj; exact hj
    rw [o_39 121 (by omega), o_31 121 (by omega), e_21, gx_up_row (by decide)]
    by_cases e : j = Q 0 2
    · rw [e, upd_eq, gx_up_eq]
    · rw [upd_ne _ _ e, gx_up_col e, gx_up_row (by decide)]; exact r7 j (by omega)
  · have hj2 : j < Q 0 2 + 1 := by rw [gx_up_row (by decide), gx_up_row (by decide), gx_up_eq] at hj; exact hj
    rw [o_39 122 (by omega), e_31]
    by_cases e : j = Q 0 2
    · rw [e, upd_eq, gx_up_eq]
    · rw [upd_ne _ _ e, gx_up_col e, gx_up_row (by decide), gx_up_row (by decide), o_21 122 (by omega)]; exact r8 j (by omega)
