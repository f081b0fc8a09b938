set_option maxRecDepth 100000 in
set_option maxHeartbeats 4000000 in
theorem c_X0_clear {l : Launch} {G : gt_G} {n : Nat} {w : gt_W} {c : Nat} (hc : gt_isC c) : gt_D l G yX0_clear cX0_clear 1 none 1 n [.ref c] w (fun r w' => r = none ∧ (∀ a, a ≠ c → w' a = w a) ∧ gx_Co w' c (fun _ _ => 0)) := by
  refine gt_D_of (own := RX0) (nm := "clear") rfl rfl (by decide +kernel) (Nat.le_of_ble_eq_true rfl) ?_
  show gt_A _ _ _ _ _ _ _ _ _ _ _ [(0, .ref c)] _ _
  refine ga_aload_n 0 dX0_clear_0 rfl ?_
  refine ga_iconst (nI 0) dX0_clear_1 (by decide) ?_
  refine gw_put 0 kp_X0_33 (shC hc _) (shC hc _) rfl rfl (Nat.le_of_ble_eq_true rfl) dX0_clear_2 (fun w_2 o_2 e_2 => ?_)
  refine ga_aload_n 0 dX0_clear_5 rfl ?_
  refine ga_iconst (nI 0) dX0_clear_6 (by decide) ?_
  refine gw_put 1 kp_X0_37 (shC hc _) (shC hc _) rfl rfl (Nat.le_of_ble_eq_true rfl) dX0_clear_7 (fun w_7 o_7 e_7 => ?_)
  refine ga_aload_n 0 dX0_clear_10 rfl ?_
  refine ga_iconst (nI 0) dX0_clear_11 (by decide) ?_
  refine gw_put 2 kp_X0_40 (shC hc _) (shC hc _) rfl rfl (Nat.le_of_ble_eq_true rfl) dX0_clear_12 (fun w_12 o_12 e_12 => ?_)
  refine ga_aload_n 0 dX0_clear_15 rfl ?_
  refine ga_iconst (nI 0) dX0_clear_16 (by decide) ?_
  refine gw_put 3 kp_X0_43 (shC hc _) (shC hc _) rfl rfl (Nat.le_of_ble_eq_true rfl) dX0_clear_17 (fun w_17 o_17 e_17 => ?_)
  exact gd_vret dX0_clear_20 ⟨rfl, fun a ha => by rw [o_17 a ha, o_12 a ha, o_7 a ha, o_2 a ha], ⟨by rw [e_17, upd_ne _ _ (by decide), e_12, upd_ne _ _ (by decide), e_7, upd_ne _ _ (by decide), e_2, upd_eq], by rw [e_17, upd_ne _ _ (by decide), e_12, upd_ne _ _ (by decide), e_7, upd_eq], by rw [e_17, upd_ne _ _ (by decide), e_12, upd_eq], by rw [e_17, upd_eq]⟩, fun j hj => absurd hj (Nat.not_lt_zero _), fun j hj => absurd hj (Nat.not_lt_zero _), fun j hj => absurd hj (Nat.not_lt_zero _), fun j hj => absurd hj (Nat.not_lt_zero _), fun j hj => absurd hj (Nat.not_lt_zero _), fun j hj => absurd hj (Nat.not_lt_zero _), fun j hj => absurd hj (Nat.not_lt_zero _)⟩
set_option maxRecDepth 100000 in
set_option maxHeartbeats 4000000 in
theorem c_X6_letters {l : Launch} {G : gt_G} {n : Nat} {w : gt_W} {N : Int32} (h : w 2 1 = N) : gt_C l G yX6_letters cX6_letters 1 (some .int) 1 0 0 n [.ref 2] (gt_enc w) (some (.int N)) (gt_enc (w)) := by
  refine gt_C_of (own := RX6) (nm := "letters") rfl rfl (by decide +kernel) (Nat.le_of_ble_eq_true rfl) ?_
  show gt_A _ _ _ _ _ _ _ _ _ _ _ [(0, .ref 2)] _ _
  refine ga_aload_n 0 dX6_letters_0 rfl ?_
  refine ga_get kf_X6_19 (sh2 _) (gv h) dX6_letters_1 ?_
  exact ga_iret dX6_letters_4 (by rfl) rfl
set_option maxRecDepth 100000 in
set_option maxHeartbeats 4000000 in
theorem c_X6_faultPlace {l : Launch} {G : gt_G} {n : Nat} {w : gt_W} {N : Int32} (h : w 2 4 = N) : gt_C l G yX6_faultPlace cX6_faultPlace 1 (some .int) 1 0 0 n [.ref 2] (gt_enc w) (some (.int N)) (gt_enc (w)) := by
  refine gt_C_of (own := RX6) (nm := "faultPlace") rfl rfl (by decide +kernel) (Nat.le_of_ble_eq_true rfl) ?_
  show gt_A _ _ _ _ _ _ _ _ _ _ _ [(0, .ref 2)] _ _
  refine ga_aload_n 0 dX6_faultPlace_0 rfl ?_
  refine ga_get kf_X6_15 (sh2 _) (gv h) dX6_faultPlace_1 ?_
  exact ga_iret dX6_faultPlace_4 (by rfl) rfl
set_option maxRecDepth 100000 in
set_option maxHeartbeats 4000000 in
theorem c_X6_add_full {l : Launch} {G : gt_G} {n : Nat} {w : gt_W} {v : Int32} (h : w 2 1 = nI 240) : gt_C l G yX6_add cX6_add 2 (some .int) 1 0 0 n [.ref 2, .int v] (gt_enc w) (some (.int (-1000000004))) (gt_enc (w)) := by
  refine gt_C_of (own := RX6) (nm := "add") rfl rfl (by decide +kernel) (Nat.le_of_ble_eq_true rfl) ?_
  show gt_A _ _ _ _ _ _ _ _ _ _ _ [(0, .ref 2), (1, .int v)] _ _
  refine ga_aload_n 0 dX6_add_0 rfl ?_
  refine ga_get kf_X6_19 (sh2 _) (gv h) dX6_add_1 ?_
  refine ga_sipush (nI 240) dX6_add_4 (by decide) ?_
  refine ga_icmp_lt 13 dX6_add_7 (by decide) (fun c_7 => absurd c_7 (by decide)) (fun c_7 => ?_)
  refine ga_ldc kc_X6_22 dX6_add_10 ?_
  exact ga_iret dX6_add_12 (by rfl) rfl
set_option maxRecDepth 100000 in
set_option maxHeartbeats 4000000 in
theorem c_X6_add {l : Launch} {G : gt_G} {n : Nat} {w : gt_W} {v : Int32} {L : Nat} (h : w 2 1 = nI L) (hL : L < 240) : gt_D l G yX6_add cX6_add 2 (some .int) 1 n [.ref 2, .int v] w (fun r w' => r = some (.int (nI (L + 1))) ∧ (∀ a, a ≠ 2 → a ≠ 3 → w' a = w a) ∧ w' 3 = upd (w 3) L v ∧ w' 2 = upd (w 2) 1 (nI (L + 1))) := by
  refine gt_D_of (own := RX6) (nm := "add") rfl rfl (by decide +kernel) (Nat.le_of_ble_eq_true rfl) ?_
  show gt_A _ _ _ _ _ _ _ _ _ _ _ [(0, .ref 2), (1, .int v)] _ _
  refine ga_aload_n 0 dX6_add_0 rfl ?_
  refine ga_get kf_X6_19 (sh2 _) (gv h) dX6_add_1 ?_
  refine ga_sipush (nI 240) dX6_add_4 (by decide) ?_
  refine ga_icmp_lt 13 dX6_add_7 (by decide) (fun c_7 => ?_) (fun c_7 => absurd (nI_lt hL (by omega)) c_7)
  refine ga_aload_n 0 dX6_add_13 rfl ?_
  refine ga_get kf_X6_9 (sh2 _) rfl dX6_add_14 ?_
  refine ga_aload_n 0 dX6_add_17 rfl ?_
  refine ga_get kf_X6_19 (sh2 _) (gv h) dX6_add_18 ?_
  refine ga_iload_n 1 dX6_add_21 rfl ?_
  refine gw_iast (sh3) (k := L) (gt_ixn (by omega)) dX6_add_22 (fun w_22 o_22 e_22 => ?_)
  refine ga_aload_n 0 dX6_add_23 rfl ?_
  refine ga_dup dX6_add_24 rfl ?_
  refine ga_get kf_X6_19 (sh2 _) (gvv (nI L) (by rw [o_22 2 (by decide)]; exact h)) dX6_add_25 ?_
  refine ga_iconst (nI 1) dX6_add_28 (by decide) ?_
  refine ga_iadd dX6_add_29 ?_
  refine ga_top (nI (L + 1)) (nI_add L 1) ?_
  refine gw_put 1 kp_X6_19 (sh2 _) (sh2 _) rfl rfl (Nat.le_of_ble_eq_true rfl) dX6_add_30 (fun w_30 o_30 e_30 => ?_)
  refine ga_aload_n 0 dX6_add_33 rfl ?_
  refine ga_get kf_X6_19 (sh2 _) (gvv (nI (L + 1)) (by rw [e_30, upd_eq])) dX6_add_34 ?_
  exact gd_iret dX6_add_37 ⟨rfl, fun a h1 h2 => by rw [o_30 a h1, o_22 a h2], by rw [o_30 3 (by decide), e_22], by rw [e_30, o_22 2 (by decide)]⟩
/-- the cells behind the first: k more may come -/
def gx_cs (x : Nat → Nat) (L : Nat) : Nat → gx_T → gx_K → gx_T × gx_K
  | 0, s, K => (s, K)
  | k + 1, s, K => if gx_skip x L s.1 < L ∧ x (gx_skip x L s.1) = 44 then gx_cs x L k (gx_num x L (gx_sgn x L (gx_skip x L s.1, s.2) 44) 0 60) (gx_up (gx_up K 1 (10 - (k + 1)) (gx_nv x L (gx_sgn x L (gx_skip x L s.1, s.2) 44))) 0 0 (10 - (k + 1) + 1)) else ((gx_skip x L s.1, s.2), K)
/-- the cells: the reader and the coast behind them -/
def gx_ce0 (x : Nat → Nat) (L : Nat) (s : gx_T) (K : gx_K) : gx_T × gx_K := gx_cs x L 9 (gx_num x L (gx_sgn x L s 99) 0 60) (gx_up (gx_up K 1 0 (gx_nv x L (gx_sgn x L s 99))) 0 0 1)
def gx_ce (x : Nat → Nat) (L : Nat) (s : gx_T) (K : gx_K) : gx_T := gx_sgn x L (if (gx_ce0 x L s K).2 0 0 < 2 then gx_fl (gx_ce0 x L s K).1 1 (gx_ce0 x L s K).1.1 else (gx_ce0 x L s K).1) 59
theorem gx_Co_ce {w w' : gt_W} {c i v : Nat} {K : gx_K} (h0 : w' c = upd (w c) 0 (nI (i + 1))) (h1 : w' (c + 1) = upd (w (c + 1)) i (nI v)) (ho : ∀ j, 2 ≤ j → j ≤ 7 → w' (c + j) = w (c + j)) (hi : K 0 0 = i) (hK : gx_Co w c K) : gx_Co w' c (gx_up (gx_up K 1 i v) 0 0 (i + 1)) := by
  obtain ⟨⟨q0, q1, q2, q3⟩, r1, r2, r3, r4, r5, r6, r7⟩ := hK
  refine ⟨⟨?_, ?_, ?_, ?_⟩, fun j hj => ?_, fun j hj => ?_, fun j hj => ?_, fun j hj => ?_, fun j hj => ?_, fun j hj => ?_, fun j hj => ?_⟩
  · rw [h0, upd_eq, gx_up_eq]
  · rw [h0, upd_ne _ _ (by decide), gx_up_col (by decide), gx_up_row (by decide)]; exact q1
  · rw [h0, upd_ne _ _ (by decide), gx_up_col (by decide), gx_up_row (by decide)]; exact q2
  · rw [h0, upd_ne _ _ (by decide), gx_up_col (by decide), gx_up_row (by decide)]; exact q3
  · have hj2 : j < i + 1 := by rw [gx_up_eq] at hj; exact hj
    rw [h1, gx_up_row (by decide)]
    by_cases e : j = i
    · rw [e, upd_eq, gx_up_eq]
    · rw [upd_ne _ _ e, gx_up_col e]; exact r1 j (by omega)
  · have hj2 : j < K 0 1 := by rw [gx_up_col (by decide), gx_up_row (by decide)] at hj; exact hj
    rw [ho 2 (by decide) (by decide), gx_up_row (by decide), gx_up_row (by decide)]; exact r2 j hj2
  · have hj2 : j < K 0 1 := by rw [gx_up_col (by decide), gx_up_row (by decide)] at hj; exact hj
    rw [ho 3 (by decide) (by decide), gx_up_row (by decide), gx_up_row (by decide)]; exact r3 j hj2
  · have hj2 : j < K 0 2 := by rw [gx_up_col (by decide), gx_up_row (by decide)] at hj; exact hj
    rw [ho 4 (by decide) (by decide), gx_up_row (by decide), gx_up_row (by decide)]; exact r4 j hj2
  · have hj2 : j < K 0 3 := by rw [gx_up_col (by decide), gx_up_row (by decide)] at hj; exact hj
    rw [ho 5 (by decide) (by decide), gx_up_row (by decide), gx_up_row (by decide)]; exact r5 j hj2
  · have hj2 : j < K 0 3 := by rw [gx_up_col (by decide), gx_up_row (by decide)] at hj; exact hj
    rw [ho 6 (by decide) (by decide), gx_up_row (by decide), gx_up_row (by decide)]; exact r6 j hj2
  · have hj2 : j < K 0 3 := by rw [gx_up_col (by decide), gx_up_row (by decide)] at hj; exact hj
    rw [ho 7 (by decide) (by decide), gx_up_row (by decide), gx_up_row (by decide)]; exact r7 j hj2
theorem gx_cs_b {x : Nat → Nat} {L : Nat} : ∀ k s K, gx_RW x L s → k ≤ 9 → K 0 0 = 10 - k → gx_RW x L (gx_cs x L k s K).1 ∧ 1 ≤ (gx_cs x L k s K).2 0 0 ∧ (gx_cs x L k s K).2 0 0 ≤ 10
  | 0, s, K, h, hk, h0 => ⟨h, by show 1 ≤ K 0 0; omega, by show K 0 0 ≤ 10; omega⟩
  | k + 1, s, K, h, hk, h0 => by
    have h1 := gx_RW_sk h
    unfold gx_cs
    split
    · exact gx_cs_b k _ _ (gx_RW_num (gx_RW_sgn h1 44) 0 60) (by omega) (by rw [gx_up_eq]; omega)
    · exact ⟨h1, by show 1 ≤ K 0 0; omega, by show K 0 0 ≤ 10; omega⟩
set_option maxRecDepth 100000 in
set_option maxHeartbeats 4000000 in
theorem c_X6_readCells {l : Launch} {G : gt_G} {n : Nat} {w : gt_W} {c : Nat} {K : gx_K} {x : Nat → Nat} {L : Nat} {s : gx_T} (hc : gt_isC c) (hK : gx_Co w c K) (hR : gx_Rd w x L s) (rw9 : gx_RW x L s) (h00 : K 0 0 = 0) : gt_D l G yX6_readCells cX6_readCells 3 none 4 n [.ref 2, .ref c] w (fun r w' => r = none ∧ (∀ a, a ≠ 2 → (a < c ∨ c + 8 ≤ a) → w' a = w a) ∧ gx_Rd w' x L (gx_ce x L s K) ∧ gx_Co w' c (gx_ce0 x L s K).2) := by
  have hl := gt_isC_lt hc
  refine gt_D_of (own := RX6) (nm := "readCells") rfl rfl (by decide +kernel) (Nat.le_of_ble_eq_true rfl) ?_
  show gt_A _ _ _ _ _ _ _ _ _ _ _ [(0, .ref 2), (1, .ref c)] _ _
  refine ga_aload_n 0 dX6_readCells_0 rfl ?_
  refine ga_bipush (nI 99) dX6_readCells_1 (by decide) ?_
  refine gd_V1 km_X6_45 kv_X6_takeSign (c_X6_takeSign (c9 := 99) hR rw9 (by decide)) (sh2 _) rfl rfl (gt_rc0 (by decide)) (Nat.le_of_ble_eq_true rfl) dX6_readCells_3 (fun r_3 w_3 q_3 => ?_)
  obtain ⟨rfl, o3, hR⟩ := q_3
  have rw1 := gx_RW_sgn rw9 99
  refine ga_aload_n 1 dX6_readCells_6 rfl ?_
  refine ga_get kf_X6_49 (shC hc _) rfl dX6_readCells_7 ?_
  refine ga_iconst (nI 0) dX6_readCells_10 (by decide) ?_
  refine ga_aload_n 0 dX6_readCells_11 rfl ?_
  refine ga_iconst (nI 0) dX6_readCells_12 (by decide) ?_
  refine ga_bipush (nI 60) dX6_readCells_13 (by decide) ?_
  refine gd_V2 km_X6_52 kv_X6_takeNumber (c_X6_takeNumber (lo := 0) (hi := 60) hR rw1 (by omega) (by omega)) (sh2 _) rfl rfl (gt_rc0 (by decide)) (Nat.le_of_ble_eq_true rfl) dX6_readCells_15 (fun r_15 w_15 q_15 => ?_)
  obtain ⟨rfl, o15, hR⟩ := q_15
  have rw2 := gx_RW_num rw1 0 60
  refine gw_iast (shC1 hc) (k := 0) (gt_ixn (by decide)) dX6_readCells_18 (fun w_18 o_18 e_18 => ?_)
  have hR := gx_Rd_eq (o_18 2 (by omega)) (o_18 3 (by omega)) hR
  refine ga_aload_n 1 dX6_readCells_19 rfl ?_
  refine ga_iconst (nI 1) dX6_readCells_20 (by decide) ?_
  refine gw_put 0 kp_X6_56 (shC hc _) (shC hc _) rfl rfl (Nat.le_of_ble_eq_true rfl) dX6_readCells_21 (fun w_21 o_21 e_21 => ?_)
  have hR := gx_Rd_eq (o_21 2 (by omega)) (o_21 3 (by omega)) hR
  refine ga_iconst (nI 1) dX6_readCells_24 (by decide) ?_
  refine gs_istore_n [(0, _), (1, _), (2, _)] dX6_readCells_25 (by decide) rfl rfl ?_
  have loop : ∀ k, k ≤ 9 → ∀ (s1 : gx_T) (K1 : gx_K) (w1 : gt_W), gx_RW x L s1 → K1 0 0 = 10 - k → gx_ce0 x L s K = gx_cs x L k s1 K1 → gx_Co w1 c K1 → gx_Rd w1 x L s1 → (∀ a, a ≠ 2 → (a < c ∨ c + 8 ≤ a) → w1 a = w a) → gt_A l G RX6 "readCells" cX6_readCells 3 none (gt_rm 4 0 0) (gt_ZD G n (fun r w' => r = none ∧ (∀ a, a ≠ 2 → (a < c ∨ c + 8 ≤ a) → w' a = w a) ∧ gx_Rd w' x L (gx_ce x L s K) ∧ gx_Co w' c (gx_ce0 x L s K).2)) (n, 0, 0) 26 [(0, .ref 2), (1, .ref c), (2, .int (nI (10 - k)))] [] (gt_enc w1) := by
    intro k
    induction k with
    | zero =>
      intro hk9 s1 K1 w1 hRW h0 hcs hK hR hF
      obtain ⟨F, hFe⟩ : ∃ F, F = gx_ce0 x L s K := ⟨_, rfl⟩
      have hF1 : F = (s1, K1) := hFe.trans hcs
      have hb0 : 1 ≤ F.2 0 0 ∧ F.2 0 0 ≤ 10 := by rw [hF1]; show 1 ≤ K1 0 0 ∧ K1 0 0 ≤ 10; omega
      have hRW : gx_RW x L F.1 := by rw [hF1]; exact hRW
      have hK : gx_Co w1 c F.2 := by rw [hF1]; exact hK
      have hR : gx_Rd w1 x L F.1 := by rw [hF1]; exact hR
      refine ga_iload_n 2 dX6_readCells_26 rfl ?_
      refine ga_bipush (nI 10) dX6_readCells_27 (by decide) ?_
      refine ga_icmp_ge 73 dX6_readCells_29 (by decide) (fun c_29 => ?_) (fun c_29 => absurd (nI_le (by decide) (by decide)) c_29)
      refine ga_aload_n 1 dX6_readCells_73 rfl ?_
      refine ga_get kf_X6_56 (shC hc _) (gv hK.1.1) dX6_readCells_74 ?_
      refine ga_iconst (nI 2) dX6_readCells_77 (by decide) ?_
      refine ga_icmp_ge 90 dX6_readCells_78 (by decide) (fun c_78 => ?_) (fun c_78 => ?_)
      · have h78 : ¬ F.2 0 0 < 2 := fun q => absurd c_78 (nI_ge q (by omega))
        refine ga_aload_n 0 dX6_readCells_90 rfl ?_
        refine ga_bipush (nI 59) dX6_readCells_91 (by decide) ?_
        refine gd_V1 km_X6_45 kv_X6_takeSign (c_X6_takeSign (c9 := 59) hR hRW (by decide)) (sh2 _) rfl rfl (gt_rc0 (by decide)) (Nat.le_of_ble_eq_true rfl) dX6_readCells_93 (fun r_93 w_93 q_93 => ?_)
        obtain ⟨rfl, o93, hR⟩ := q_93
        refine gd_vret dX6_readCells_96 ?_
        first
        | exact ⟨rfl, fun a h1 h2 => by rw [o93 a h1, o87 a h1]; exact hF a h1 h2, by unfold gx_ce; rw [← hFe, if_pos h78]; exact hR, by rw [← hFe]; exact gx_Co_eq9 hc (fun a ha => by rw [o93 a (by omega), o87 a (by omega)]) hK⟩
        | exact ⟨rfl, fun a h1 h2 => by rw [o93 a h1]; exact hF a h1 h2, by unfold gx_ce; rw [← hFe, if_neg h78]; exact hR, by rw [← hFe]; exact gx_Co_eq9 hc (fun a ha => o93 a (by omega)) hK⟩
      · have h78 : F.2 0 0 < 2 := Decidable.byContradiction fun q => c_78 (nI_le (by omega) (by omega))
        refine ga_aload_n 0 dX6_readCells_81 rfl ?_
        refine ga_iconst (nI 1) dX6_readCells_82 (by decide) ?_
        refine ga_aload_n 0 dX6_readCells_83 rfl ?_
        refine ga_get kf_X6_23 (sh2 _) (gv hR.1.2.1) dX6_readCells_84 ?_
        refine gd_V2 km_X6_63 kv_X6_fail (c_X6_fail hR hRW) (sh2 _) rfl rfl (gt_rc0 (by decide)) (Nat.le_of_ble_eq_true rfl) dX6_readCells_87 (fun r_87 w_87 q_87 => ?_)
        obtain ⟨rfl, o87, hR⟩ := q_87
        have hRW := gx_RW_fl hRW (n := 1) (p := F.1.1) (by decide) (Nat.le_trans hRW.2.1 hRW.1)
        refine ga_aload_n 0 dX6_readCells_90 rfl ?_
        refine ga_bipush (nI 59) dX6_readCells_91 (by decide) ?_
        refine gd_V1 km_X6_45 kv_X6_takeSign (c_X6_takeSign (c9 := 59) hR hRW (by decide)) (sh2 _) rfl rfl (gt_rc0 (by decide)) (Nat.le_of_ble_eq_true rfl) dX6_readCells_93 (fun r_93 w_93 q_93 => ?_)
        obtain ⟨rfl, o93, hR⟩ := q_93
        refine gd_vret dX6_readCells_96 ?_
        first
        | exact ⟨rfl, fun a h1 h2 => by rw [o93 a h1, o87 a h1]; exact hF a h1 h2, by unfold gx_ce; rw [← hFe, if_pos h78]; exact hR, by rw [← hFe]; exact gx_Co_eq9 hc (fun a ha => by rw [o93 a (by omega), o87 a (by omega)]) hK⟩
        | exact ⟨rfl, fun a h1 h2 => by rw [o93 a h1]; exact hF a h1 h2, by unfold gx_ce; rw [← hFe, if_neg h78]; exact hR, by rw [← hFe]; exact gx_Co_eq9 hc (fun a ha => o93 a (by omega)) hK⟩
    | succ k ih =>
      intro hk9 s1 K1 w1 hRW h0 hcs hK hR hF
      have hRs := gx_RW_sk hRW
      refine ga_iload_n 2 dX6_readCells_26 rfl ?_
      refine ga_bipush (nI 10) dX6_readCells_27 (by decide) ?_
      refine ga_icmp_ge 73 dX6_readCells_29 (by decide) (fun c_29 => absurd c_29 (nI_ge (by omega) (by decide))) (fun c_29 => ?_)
      refine ga_aload_n 0 dX6_readCells_32 rfl ?_
      refine ga_bipush (nI 44) dX6_readCells_33 (by decide) ?_
      refine gd_V1 km_X6_59 kv_X6_nextIs (c_X6_nextIs (c9 := 44) hR hRW (by decide)) (sh2 _) rfl rfl (gt_rc0 (by decide)) (Nat.le_of_ble_eq_true rfl) dX6_readCells_35 (fun r_35 w_35 q_35 => ?_)
      obtain ⟨rfl, o35, hR⟩ := q_35
      refine ga_if_eq 73 dX6_readCells_38 (by decide) (fun c_38 => ?_) (fun c_38 => ?_)
      · have hno : ¬ (gx_skip x L s1.1 < L ∧ x (gx_skip x L s1.1) = 44) := fun q => absurd c_38 (by rw [if_pos q]; decide)
        obtain ⟨F, hFe⟩ : ∃ F, F = gx_ce0 x L s K := ⟨_, rfl⟩
        have hF1 : F = ((gx_skip x L s1.1, s1.2), K1) := hFe.trans (hcs.trans (if_neg hno))
        have hb0 : 1 ≤ F.2 0 0 ∧ F.2 0 0 ≤ 10 := by rw [hF1]; show 1 ≤ K1 0 0 ∧ K1 0 0 ≤ 10; omega
        have hRW : gx_RW x L F.1 := by rw [hF1]; exact hRs
        have hK : gx_Co w_35 c F.2 := by rw [hF1]; exact gx_Co_eq9 hc (fun a ha => o35 a (by omega)) hK
        have hR : gx_Rd w_35 x L F.1 := by rw [hF1]; exact hR
        have hF := fun a h1 h2 => (o35 a h1).trans (hF a h1 h2)
        refine ga_aload_n 1 dX6_readCells_73 rfl ?_
        refine ga_get kf_X6_56 (shC hc _) (gv hK.1.1) dX6_readCells_74 ?_
        refine ga_iconst (nI 2) dX6_readCells_77 (by decide) ?_
        refine ga_icmp_ge 90 dX6_readCells_78 (by decide) (fun c_78 => ?_) (fun c_78 => ?_)
        · have h78 : ¬ F.2 0 0 < 2 := fun q => absurd c_78 (nI_ge q (by omega))
          refine ga_aload_n 0 dX6_readCells_90 rfl ?_
          refine ga_bipush (nI 59) dX6_readCells_91 (by decide) ?_
          refine gd_V1 km_X6_45 kv_X6_takeSign (c_X6_takeSign (c9 := 59) hR hRW (by decide)) (sh2 _) rfl rfl (gt_rc0 (by decide)) (Nat.le_of_ble_eq_true rfl) dX6_readCells_93 (fun r_93 w_93 q_93 => ?_)
          obtain ⟨rfl, o93, hR⟩ := q_93
          refine gd_vret dX6_readCells_96 ?_
          first
          | exact ⟨rfl, fun a h1 h2 => by rw [o93 a h1, o87 a h1]; exact hF a h1 h2, by unfold gx_ce; rw [← hFe, if_pos h78]; exact hR, by rw [← hFe]; exact gx_Co_eq9 hc (fun a ha => by rw [o93 a (by omega), o87 a (by omega)]) hK⟩
          | exact ⟨rfl, fun a h1 h2 => by rw [o93 a h1]; exact hF a h1 h2, by unfold gx_ce; rw [← hFe, if_neg h78]; exact hR, by rw [← hFe]; exact gx_Co_eq9 hc (fun a ha => o93 a (by omega)) hK⟩
        · have h78 : F.2 0 0 < 2 := Decidable.byContradiction fun q => c_78 (nI_le (by omega) (by omega))
          refine ga_aload_n 0 dX6_readCells_81 rfl ?_
          refine ga_iconst (nI 1) dX6_readCells_82 (by decide) ?_
          refine ga_aload_n 0 dX6_readCells_83 rfl ?_
          refine ga_get kf_X6_23 (sh2 _) (gv hR.1.2.1) dX6_readCells_84 ?_
          refine gd_V2 km_X6_63 kv_X6_fail (c_X6_fail hR hRW) (sh2 _) rfl rfl (gt_rc0 (by decide)) (Nat.le_of_ble_eq_true rfl) dX6_readCells_87 (fun r_87 w_87 q_87 => ?_)
          obtain ⟨rfl, o87, hR⟩ := q_87
          have hRW := gx_RW_fl hRW (n := 1) (p := F.1.1) (by decide) (Nat.le_trans hRW.2.1 hRW.1)
          refine ga_aload_n 0 dX6_readCells_90 rfl ?_
          refine ga_bipush (nI 59) dX6_readCells_91 (by decide) ?_
          refine gd_V1 km_X6_45 kv_X6_takeSign (c_X6_takeSign (c9 := 59) hR hRW (by decide)) (sh2 _) rfl rfl (gt_rc0 (by decide)) (Nat.le_of_ble_eq_true rfl) dX6_readCells_93 (fun r_93 w_93 q_93 => ?_)
          obtain ⟨rfl, o93, hR⟩ := q_93
          refine gd_vret dX6_readCells_96 ?_
          first
          | exact ⟨rfl, fun a h1 h2 => by rw [o93 a h1, o87 a h1]; exact hF a h1 h2, by unfold gx_ce; rw [← hFe, if_pos h78]; exact hR, by rw [← hFe]; exact gx_Co_eq9 hc (fun a ha => by rw [o93 a (by omega), o87 a (by omega)]) hK⟩
          | exact ⟨rfl, fun a h1 h2 => by rw [o93 a h1]; exact hF a h1 h2, by unfold gx_ce; rw [← hFe, if_neg h78]; exact hR, by rw [← hFe]; exact gx_Co_eq9 hc (fun a ha => o93 a (by omega)) hK⟩
      · have hyes : gx_skip x L s1.1 < L ∧ x (gx_skip x L s1.1) = 44 := Decidable.byContradiction fun q => c_38 (by rw [if_neg q]; decide)
        refine ga_aload_n 0 dX6_readCells_41 rfl ?_
        refine ga_bipush (nI 44) dX6_readCells_42 (by decide) ?_
        refine gd_V1 km_X6_45 kv_X6_takeSign (c_X6_takeSign (c9 := 44) hR hRs (by decide)) (sh2 _) rfl rfl (gt_rc0 (by decide)) (Nat.le_of_ble_eq_true rfl) dX6_readCells_44 (fun r_44 w_44 q_44 => ?_)
        obtain ⟨rfl, o44, hR⟩ := q_44
        have hRg := gx_RW_sgn hRs 44
        refine ga_aload_n 1 dX6_readCells_47 rfl ?_
        refine ga_get kf_X6_49 (shC hc _) rfl dX6_readCells_48 ?_
        refine ga_iload_n 2 dX6_readCells_51 rfl ?_
        refine ga_aload_n 0 dX6_readCells_52 rfl ?_
        refine ga_iconst (nI 0) dX6_readCells_53 (by decide) ?_
        refine ga_bipush (nI 60) dX6_readCells_54 (by decide) ?_
        refine gd_V2 km_X6_52 kv_X6_takeNumber (c_X6_takeNumber (lo := 0) (hi := 60) hR hRg (by omega) (by omega)) (sh2 _) rfl rfl (gt_rc0 (by decide)) (Nat.le_of_ble_eq_true rfl) dX6_readCells_56 (fun r_56 w_56 q_56 => ?_)
        obtain ⟨rfl, o56, hR⟩ := q_56
        have hRn := gx_RW_num hRg 0 60
        refine gw_iast (shC1 hc) (k := 10 - (k + 1)) (gt_ixn (by omega)) dX6_readCells_59 (fun w_59 o_59 e_59 => ?_)
        have hR := gx_Rd_eq (o_59 2 (by omega)) (o_59 3 (by omega)) hR
        refine ga_aload_n 1 dX6_readCells_60 rfl ?_
        refine ga_iload_n 2 dX6_readCells_61 rfl ?_
        refine ga_iconst (nI 1) dX6_readCells_62 (by decide) ?_
        refine ga_iadd dX6_readCells_63 ?_
        refine ga_top (nI (10 - (k + 1) + 1)) (nI_add _ 1) ?_
        refine gw_put 0 kp_X6_56 (shC hc _) (shC hc _) rfl rfl (Nat.le_of_ble_eq_true rfl) dX6_readCells_64 (fun w_64 o_64 e_64 => ?_)
        have hR := gx_Rd_eq (o_64 2 (by omega)) (o_64 3 (by omega)) hR
        refine gs_iincN 2 1 [(0, _), (1, _), (2, _)] dX6_readCells_67 rfl (by decide) (by decide) rfl rfl ?_
        refine ga_goto 26 dX6_readCells_70 (by decide) ?_
        have h9 := ih (by omega) _ _ w_64 hRn (by rw [gx_up_eq]; omega) (hcs.trans (if_pos hyes)) (gx_Co_ce (w := w1) (by rw [e_64, o_59 c (by omega), o56 c (by omega), o44 c (by omega), o35 c (by omega)]) (by rw [o_64 (c + 1) (by omega), e_59, o56 (c + 1) (by omega), o44 (c + 1) (by omega), o35 (c + 1) (by omega)]) (fun j h1 h2 => by rw [o_64 (c + j) (by omega), o_59 (c + j) (by omega), o56 (c + j) (by omega), o44 (c + j) (by omega), o35 (c + j) (by omega)]) h0 hK) hR (fun a h1 h2 => by rw [o_64 a (by omega), o_59 a (by omega), o56 a h1, o44 a h1, o35 a h1]; exact hF a h1 h2)
        rw [show 10 - (k + 1) + 1 = 10 - k by omega]
        exact h9
  exact loop 9 (by decide) _ _ _ rw2 (by rw [gx_up_eq]) rfl (gx_Co_ce (i := 0) (w := w) (by rw [e_21, o_18 c (by omega), o15 c (by omega), o3 c (by omega)]) (by rw [o_21 (c + 1) (by omega), e_18, o15 (c + 1) (by omega), o3 (c + 1) (by omega)]) (fun j h1 h2 => by rw [o_21 (c + j) (by omega), o_18 (c + j) (by omega), o15 (c + j) (by omega), o3 (c + j) (by omega)]) h00 hK) hR (fun a h1 h2 => by rw [o_21 a (by omega), o_18 a (by omega), o15 a h1, o3 a h1])
