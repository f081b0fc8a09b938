theorem gx_Rd_eq {w w' : gt_W} {x : Nat → Nat} {L : Nat} {s : gx_T} (e2 : w' 2 = w 2) (e3 : w' 3 = w 3) (h : gx_Rd w x L s) : gx_Rd w' x L s := by
  unfold gx_Rd at h ⊢
  rw [e2, e3]
  exact h
/-- a clause of a tower, of a player, of a boat: the reader, the coast -/
def gx_tw (x : Nat → Nat) (L : Nat) (s : gx_T) (K : gx_K) : gx_T := if 6 ≤ K 0 1 then gx_fl s 3 s.1 else gx_sgn x L (gx_num x L (gx_num x L (gx_sgn x L s 116) 0 (K 0 0 - 1)) 1 20) 59
def gx_twK (x : Nat → Nat) (L : Nat) (s : gx_T) (K : gx_K) : gx_K := if 6 ≤ K 0 1 then K else gx_up (gx_up (gx_up K 0 1 (K 0 1 + 1)) 2 (K 0 1) (gx_nv x L (gx_sgn x L s 116))) 3 (K 0 1) (gx_nv x L (gx_num x L (gx_sgn x L s 116) 0 (K 0 0 - 1)))
def gx_pl (x : Nat → Nat) (L : Nat) (s : gx_T) (K : gx_K) : gx_T := if 6 ≤ K 0 2 then gx_fl s 3 s.1 else gx_sgn x L (gx_num x L (gx_sgn x L s 112) 1 9) 59
def gx_plK (x : Nat → Nat) (L : Nat) (s : gx_T) (K : gx_K) : gx_K := if 6 ≤ K 0 2 then K else gx_up (gx_up K 0 2 (K 0 2 + 1)) 4 (K 0 2) (gx_nv x L (gx_sgn x L s 112))
def gx_bo (x : Nat → Nat) (L : Nat) (s : gx_T) (K : gx_K) : gx_T := if 4 ≤ K 0 3 then gx_fl s 3 s.1 else gx_sgn x L (gx_num x L (gx_num x L (gx_num x L (gx_sgn x L s 98) 1 30) 0 (K 0 0 - 1)) 0 (K 0 0 - 1)) 59
def gx_boK (x : Nat → Nat) (L : Nat) (s : gx_T) (K : gx_K) : gx_K := if 4 ≤ K 0 3 then K else gx_up (gx_up (gx_up (gx_up K 0 3 (K 0 3 + 1)) 5 (K 0 3) (gx_nv x L (gx_sgn x L s 98))) 6 (K 0 3) (gx_nv x L (gx_num x L (gx_sgn x L s 98) 1 30))) 7 (K 0 3) (gx_nv x L (gx_num x L (gx_num x L (gx_sgn x L s 98) 1 30) 0 (K 0 0 - 1)))
theorem gx_Co_tw {w w' : gt_W} {c : Nat} {K : gx_K} {v1 v2 : Nat} (h0 : w' c = upd (w c) 1 (nI (K 0 1 + 1))) (h1 : w' (c + 1) = w (c + 1)) (h2 : w' (c + 2) = upd (w (c + 2)) (K 0 1) (nI v1)) (h3 : w' (c + 3) = upd (w (c + 3)) (K 0 1) (nI v2)) (h4 : w' (c + 4) = w (c + 4)) (h5 : w' (c + 5) = w (c + 5)) (h6 : w' (c + 6) = w (c + 6)) (h7 : w' (c + 7) = w (c + 7)) (hK : gx_Co w c K) : gx_Co w' c (gx_up (gx_up (gx_up K 0 1 (K 0 1 + 1)) 2 (K 0 1) v1) 3 (K 0 1) v2) := by
  obtain ⟨⟨q0, q1, q2, q3⟩, r1, r2, r3, r4, r5, r6, r7⟩ := hK
  refine ⟨⟨?_, ?_, ?_, ?_⟩, fun j hj => ?_, fun j hj => ?_, fun j hj => ?_, fun j hj => ?_, fun j hj => ?_, fun j hj => ?_, fun j hj => ?_⟩
  · rw [h0, upd_ne _ _ (by decide), gx_up_row (by decide), gx_up_row (by decide), gx_up_col (by decide)]; exact q0
  · rw [h0, upd_eq, gx_up_row (by decide), gx_up_row (by decide), gx_up_eq]
  · rw [h0, upd_ne _ _ (by decide), gx_up_row (by decide), gx_up_row (by decide), gx_up_col (by decide)]; exact q2
  · rw [h0, upd_ne _ _ (by decide), gx_up_row (by decide), gx_up_row (by decide), gx_up_col (by decide)]; exact q3
  · have hj2 : j < K 0 0 := by rw [gx_up_row (by decide), gx_up_row (by decide), gx_up_col (by decide)] at hj; exact hj
    rw [h1, gx_up_row (by decide), gx_up_row (by decide), gx_up_row (by decide)]; exact r1 j hj2
  · have hj2 : j < K 0 1 + 1 := by rw [gx_up_row (by decide), gx_up_row (by decide), gx_up_eq] at hj; exact hj
    rw [h2, gx_up_row (by decide)]
    by_cases e : j = K 0 1
    · rw [e, upd_eq, gx_up_eq]
    · rw [upd_ne _ _ e, gx_up_col e, gx_up_row (by decide)]; exact r2 j (by omega)
  · have hj2 : j < K 0 1 + 1 := by rw [gx_up_row (by decide), gx_up_row (by decide), gx_up_eq] at hj; exact hj
    rw [h3]
    by_cases e : j = K 0 1
    · rw [e, upd_eq, gx_up_eq]
    · rw [upd_ne _ _ e, gx_up_col e, gx_up_row (by decide), gx_up_row (by decide)]; exact r3 j (by omega)
  · have hj2 : j < K 0 2 := by rw [gx_up_row (by decide), gx_up_row (by decide), gx_up_col (by decide)] at hj; exact hj
    rw [h4, gx_up_row (by decide), gx_up_row (by decide), gx_up_row (by decide)]; exact r4 j hj2
  · have hj2 : j < K 0 3 := by rw [gx_up_row (by decide), gx_up_row (by decide), gx_up_col (by decide)] at hj; exact hj
    rw [h5, gx_up_row (by decide), gx_up_row (by decide), gx_up_row (by decide)]; exact r5 j hj2
  · have hj2 : j < K 0 3 := by rw [gx_up_row (by decide), gx_up_row (by decide), gx_up_col (by decide)] at hj; exact hj
    rw [h6, gx_up_row (by decide), gx_up_row (by decide), gx_up_row (by decide)]; exact r6 j hj2
  · have hj2 : j < K 0 3 := by rw [gx_up_row (by decide), gx_up_row (by decide), gx_up_col (by decide)] at hj; exact hj
    rw [h7, gx_up_row (by decide), gx_up_row (by decide), gx_up_row (by decide)]; exact r7 j hj2
theorem gx_Co_pl {w w' : gt_W} {c : Nat} {K : gx_K} {v1 : Nat} (h0 : w' c = upd (w c) 2 (nI (K 0 2 + 1))) (h1 : w' (c + 1) = w (c + 1)) (h2 : w' (c + 2) = w (c + 2)) (h3 : w' (c + 3) = w (c + 3)) (h4 : w' (c + 4) = upd (w (c + 4)) (K 0 2) (nI v1)) (h5 : w' (c + 5) = w (c + 5)) (h6 : w' (c + 6) = w (c + 6)) (h7 : w' (c + 7) = w (c + 7)) (hK : gx_Co w c K) : gx_Co w' c (gx_up (gx_up K 0 2 (K 0 2 + 1)) 4 (K 0 2) v1) := by
  obtain ⟨⟨q0, q1, q2, q3⟩, r1, r2, r3, r4, r5, r6, r7⟩ := hK
  refine ⟨⟨?_, ?_, ?_, ?_⟩, fun j hj => ?_, fun j hj => ?_, fun j hj => ?_, fun j hj => ?_, fun j hj => ?_, fun j hj => ?_, fun j hj => ?_⟩
  · rw [h0, upd_ne _ _ (by decide), gx_up_row (by decide), gx_up_col (by decide)]; exact q0
  · rw [h0, upd_ne _ _ (by decide), gx_up_row (by decide), gx_up_col (by decide)]; exact q1
  · rw [h0, upd_eq, gx_up_row (by decide), gx_up_eq]
  · rw [h0, upd_ne _ _ (by decide), gx_up_row (by decide), gx_up_col (by decide)]; exact q3
  · have hj2 : j < K 0 0 := by rw [gx_up_row (by decide), gx_up_col (by decide)] at hj; exact hj
    rw [h1, gx_up_row (by decide), gx_up_row (by decide)]; exact r1 j hj2
  · have hj2 : j < K 0 1 := by rw [gx_up_row (by decide), gx_up_col (by decide)] at hj; exact hj
    rw [h2, gx_up_row (by decide), gx_up_row (by decide)]; exact r2 j hj2
  · have hj2 : j < K 0 1 := by rw [gx_up_row (by decide), gx_up_col (by decide)] at hj; exact hj
    rw [h3, gx_up_row (by decide), gx_up_row (by decide)]; exact r3 j hj2
  · have hj2 : j < K 0 2 + 1 := by rw [gx_up_row (by decide), gx_up_eq] at hj; exact hj
    rw [h4]
    by_cases e : j = K 0 2
    · rw [e, upd_eq, gx_up_eq]
    · rw [upd_ne _ _ e, gx_up_col e, gx_up_row (by decide)]; exact r4 j (by omega)
  · have hj2 : j < K 0 3 := by rw [gx_up_row (by decide), gx_up_col (by decide)] at hj; exact hj
    rw [h5, gx_up_row (by decide), gx_up_row (by decide)]; exact r5 j hj2
  · have hj2 : j < K 0 3 := by rw [gx_up_row (by decide), gx_up_col (by decide)] at hj; exact hj
    rw [h6, gx_up_row (by decide), gx_up_row (by decide)]; exact r6 j hj2
  · have hj2 : j < K 0 3 := by rw [gx_up_row (by decide), gx_up_col (by decide)] at hj; exact hj
    rw [h7, gx_up_row (by decide), gx_up_row (by decide)]; exact r7 j hj2
theorem gx_Co_bo {w w' : gt_W} {c : Nat} {K : gx_K} {v1 v2 v3 : Nat} (h0 : w' c = upd (w c) 3 (nI (K 0 3 + 1))) (h1 : w' (c + 1) = w (c + 1)) (h2 : w' (c + 2) = w (c + 2)) (h3 : w' (c + 3) = w (c + 3)) (h4 : w' (c + 4) = w (c + 4)) (h5 : w' (c + 5) = upd (w (c + 5)) (K 0 3) (nI v1)) (h6 : w' (c + 6) = upd (w (c + 6)) (K 0 3) (nI v2)) (h7 : w' (c + 7) = upd (w (c + 7)) (K 0 3) (nI v3)) (hK : gx_Co w c K) : gx_Co w' c (gx_up (gx_up (gx_up (gx_up K 0 3 (K 0 3 + 1)) 5 (K 0 3) v1) 6 (K 0 3) v2) 7 (K 0 3) v3) := by
  obtain ⟨⟨q0, q1, q2, q3⟩, r1, r2, r3, r4, r5, r6, r7⟩ := hK
  refine ⟨⟨?_, ?_, ?_, ?_⟩, fun j hj => ?_, fun j hj => ?_, fun j hj => ?_, fun j hj => ?_, fun j hj => ?_, fun j hj => ?_, fun j hj => ?_⟩
  · rw [h0, upd_ne _ _ (by decide), gx_up_row (by decide), gx_up_row (by decide), gx_up_row (by decide), gx_up_col (by decide)]; exact q0
  · rw [h0, upd_ne _ _ (by decide), gx_up_row (by decide), gx_up_row (by decide), gx_up_row (by decide), gx_up_col (by decide)]; exact q1
  · rw [h0, upd_ne _ _ (by decide), gx_up_row (by decide), gx_up_row (by decide), gx_up_row (by decide), gx_up_col (by decide)]; exact q2
  · rw [h0, upd_eq, gx_up_row (by decide), gx_up_row (by decide), gx_up_row (by decide), gx_up_eq]
  · have hj2 : j < K 0 0 := by rw [gx_up_row (by decide), gx_up_row (by decide), gx_up_row (by decide), gx_up_col (by decide)] at hj; exact hj
    rw [h1, gx_up_row (by decide), gx_up_row (by decide), gx_up_row (by decide), gx_up_row (by decide)]; exact r1 j hj2
  · have hj2 : j < K 0 1 := by rw [gx_up_row (by decide), gx_up_row (by decide), gx_up_row (by decide), gx_up_col (by decide)] at hj; exact hj
    rw [h2, gx_up_row (by decide), gx_up_row (by decide), gx_up_row (by decide), gx_up_row (by decide)]; exact r2 j hj2
  · have hj2 : j < K 0 1 := by rw [gx_up_row (by decide), gx_up_row (by decide), gx_up_row (by decide), gx_up_col (by decide)] at hj; exact hj
    rw [h3, gx_up_row (by decide), gx_up_row (by decide), gx_up_row (by decide), gx_up_row (by decide)]; exact r3 j hj2
  · have hj2 : j < K 0 2 := by rw [gx_up_row (by decide), gx_up_row (by decide), gx_up_row (by decide), gx_up_col (by decide)] at hj; exact hj
    rw [h4, gx_up_row (by decide), gx_up_row (by decide), gx_up_row (by decide), gx_up_row (by decide)]; exact r4 j hj2
  · have hj2 : j < K 0 3 + 1 := by rw [gx_up_row (by decide), gx_up_row (by decide), gx_up_row (by decide), gx_up_eq] at hj; exact hj
    rw [h5, gx_up_row (by decide), gx_up_row (by decide)]
    by_cases e : j = K 0 3
    · rw [e, upd_eq, gx_up_eq]
    · rw [upd_ne _ _ e, gx_up_col e, gx_up_row (by decide)]; exact r5 j (by omega)
  · have hj2 : j < K 0 3 + 1 := by rw [gx_up_row (by decide), gx_up_row (by decide), gx_up_row (by decide), gx_up_eq] at hj; exact hj
    rw [h6, gx_up_row (by decide)]
    by_cases e : j = K 0 3
    · rw [e, upd_eq, gx_up_eq]
    · rw [upd_ne _ _ e, gx_up_col e, gx_up_row (by decide), gx_up_row (by decide)]; exact r6 j (by omega)
  · have hj2 : j < K 0 3 + 1 := by rw [gx_up_row (by decide), gx_up_row (by decide), gx_up_row (by decide), gx_up_eq] at hj; exact hj
    rw [h7]
    by_cases e : j = K 0 3
    · rw [e, upd_eq, gx_up_eq]
    · rw [upd_ne _ _ e, gx_up_col e, gx_up_row (by decide), gx_up_row (by decide), gx_up_row (by decide)]; exact r7 j (by omega)
theorem gx_Co_eq9 {w w' : gt_W} {c : Nat} {K : gx_K} (hc : gt_isC c) (e : ∀ a, 4 ≤ a → w' a = w a) (h : gx_Co w c K) : gx_Co w' c K := by
  have hl := gt_isC_lt hc
  unfold gx_Co at h ⊢
  rw [e c (by omega), e (c + 1) (by omega), e (c + 2) (by omega), e (c + 3) (by omega), e (c + 4) (by omega), e (c + 5) (by omega), e (c + 6) (by omega), e (c + 7) (by omega)]
  exact h
set_option maxRecDepth 100000 in
set_option maxHeartbeats 4000000 in
theorem c_X6_readTower {l : Launch} {G : gt_G} {n : Nat} {w : gt_W} {c : Nat} {K : gx_K} {x : Nat → Nat} {L : Nat} {s : gx_T} (hc : gt_isC c) (hK : gx_Co w c K) (hR : gx_Rd w x L s) (rw9 : gx_RW x L s) (hC : 1 ≤ K 0 0 ∧ K 0 0 ≤ 10) (hT : K 0 1 ≤ 6) : gt_D l G yX6_readTower cX6_readTower 3 none 4 n [.ref 2, .ref c] w (fun r w' => r = none ∧ (∀ a, a ≠ 2 → (a < c ∨ c + 8 ≤ a) → w' a = w a) ∧ gx_Rd w' x L (gx_tw x L s K) ∧ gx_Co w' c (gx_twK x L s K)) := by
  have hl := gt_isC_lt hc
  refine gt_D_of (own := RX6) (nm := "readTower") rfl rfl (by decide +kernel) (Nat.le_of_ble_eq_true rfl) ?_
  show gt_A _ _ _ _ _ _ _ _ _ _ _ [(0, .ref 2), (1, .ref c)] _ _
  refine ga_aload_n 1 dX6_readTower_0 rfl ?_
  refine ga_get kf_X6_76 (shC hc _) (gv hK.1.2.1) dX6_readTower_1 ?_
  refine gs_istore_n [(0, _), (1, _), (2, _)] dX6_readTower_4 (by decide) rfl rfl ?_
  refine ga_iload_n 2 dX6_readTower_5 rfl ?_
  refine ga_bipush (nI 6) dX6_readTower_6 (by decide) ?_
  refine ga_icmp_lt 21 dX6_readTower_8 (by decide) (fun c_8 => ?_) (fun c_8 => ?_)
  · have hlt : K 0 1 < 6 := Decidable.byContradiction fun q => absurd c_8 (nI_nlt (by omega) (by omega))
    refine ga_aload_n 0 dX6_readTower_21 rfl ?_
    refine ga_bipush (nI 116) dX6_readTower_22 (by decide) ?_
    refine gd_V1 km_X6_45 kv_X6_takeSign (c_X6_takeSign (c9 := 116) hR rw9 (by decide)) (sh2 _) rfl rfl (gt_rc0 (by decide)) (Nat.le_of_ble_eq_true rfl) dX6_readTower_24 (fun r_24 w_24 q_24 => ?_)
    obtain ⟨rfl, o24, hR⟩ := q_24
    have rw1 := gx_RW_sgn rw9 116
    refine ga_aload_n 1 dX6_readTower_27 rfl ?_
    refine ga_get kf_X6_79 (shC hc _) rfl dX6_readTower_28 ?_
    refine ga_iload_n 2 dX6_readTower_31 rfl ?_
    refine ga_aload_n 0 dX6_readTower_32 rfl ?_
    refine ga_iconst (nI 0) dX6_readTower_33 (by decide) ?_
    refine ga_aload_n 1 dX6_readTower_34 rfl ?_
    refine ga_get kf_X6_56 (shC hc _) (gvv (nI (K 0 0)) (by rw [o24 c (by omega)]; exact hK.1.1)) dX6_readTower_35 ?_
    refine ga_iconst (nI 1) dX6_readTower_38 (by decide) ?_
    refine ga_isub dX6_readTower_39 ?_
    refine ga_top (nI (K 0 0 - 1)) (pk_sub (by omega)) ?_
    refine gd_V2 km_X6_52 kv_X6_takeNumber (c_X6_takeNumber (lo := 0) (hi := (K 0 0 - 1)) hR rw1 (by omega) (by omega)) (sh2 _) rfl rfl (gt_rc0 (by decide)) (Nat.le_of_ble_eq_true rfl) dX6_readTower_40 (fun r_40 w_40 q_40 => ?_)
    obtain ⟨rfl, o40, hR⟩ := q_40
    have rw1n := gx_RW_num rw1 0 (K 0 0 - 1)
    refine gw_iast (shC2 hc) (k := K 0 1) (gt_ixn (by omega)) dX6_readTower_43 (fun w_43 o_43 e_43 => ?_)
    have hR := gx_Rd_eq (o_43 2 (by omega)) (o_43 3 (by omega)) hR
    refine ga_aload_n 1 dX6_readTower_44 rfl ?_
    refine ga_get kf_X6_82 (shC hc _) rfl dX6_readTower_45 ?_
    refine ga_iload_n 2 dX6_readTower_48 rfl ?_
    refine ga_aload_n 0 dX6_readTower_49 rfl ?_
    refine ga_iconst (nI 1) dX6_readTower_50 (by decide) ?_
    refine ga_bipush (nI 20) dX6_readTower_51 (by decide) ?_
    refine gd_V2 km_X6_52 kv_X6_takeNumber (c_X6_takeNumber (lo := 1) (hi := 20) hR rw1n (by omega) (by omega)) (sh2 _) rfl rfl (gt_rc0 (by decide)) (Nat.le_of_ble_eq_true rfl) dX6_readTower_53 (fun r_53 w_53 q_53 => ?_)
    obtain ⟨rfl, o53, hR⟩ := q_53
    have rw1nn := gx_RW_num rw1n 1 20
    refine gw_iast (shC3 hc) (k := K 0 1) (gt_ixn (by omega)) dX6_readTower_56 (fun w_56 o_56 e_56 => ?_)
    have hR := gx_Rd_eq (o_56 2 (by omega)) (o_56 3 (by omega)) hR
    refine ga_aload_n 0 dX6_readTower_57 rfl ?_
    refine ga_bipush (nI 59) dX6_readTower_58 (by decide) ?_
    refine gd_V1 km_X6_45 kv_X6_takeSign (c_X6_takeSign (c9 := 59) hR rw1nn (by decide)) (sh2 _) rfl rfl (gt_rc0 (by decide)) (Nat.le_of_ble_eq_true rfl) dX6_readTower_60 (fun r_60 w_60 q_60 => ?_)
    obtain ⟨rfl, o60, hR⟩ := q_60
    refine ga_aload_n 1 dX6_readTower_63 rfl ?_
    refine ga_iload_n 2 dX6_readTower_64 rfl ?_
    refine ga_iconst (nI 1) dX6_readTower_65 (by decide) ?_
    refine ga_iadd dX6_readTower_66 ?_
    refine ga_top (nI (K 0 1 + 1)) (nI_add _ 1) ?_
    refine gw_put 1 kp_X6_76 (shC hc _) (shC hc _) rfl rfl (Nat.le_of_ble_eq_true rfl) dX6_readTower_67 (fun w_67 o_67 e_67 => ?_)
    exact gd_vret dX6_readTower_70 ⟨rfl, fun a h1 h2 => by rw [o_67 a (by omega), o60 a (by omega), o_56 a (by omega), o53 a (by omega), o_43 a (by omega), o40 a (by omega), o24 a (by omega)], by unfold gx_tw; rw [if_neg (by omega)]; exact gx_Rd_eq (o_67 2 (by omega)) (o_67 3 (by omega)) hR, by unfold gx_twK; rw [if_neg (by omega)]; exact gx_Co_tw (by rw [e_67, o60 c (by omega), o_56 c (by omega), o53 c (by omega), o_43 c (by omega), o40 c (by omega), o24 c (by omega)]) (by rw [o_67 (c + 1) (by omega), o60 (c + 1) (by omega), o_56 (c + 1) (by omega), o53 (c + 1) (by omega), o_43 (c + 1) (by omega), o40 (c + 1) (by omega), o24 (c + 1) (by omega)]) (by rw [o_67 (c + 2) (by omega), o60 (c + 2) (by omega), o_56 (c + 2) (by omega), o53 (c + 2) (by omega), e_43, o40 (c + 2) (by omega), o24 (c + 2) (by omega)]) (by rw [o_67 (c + 3) (by omega), o60 (c + 3) (by omega), e_56, o53 (c + 3) (by omega), o_43 (c + 3) (by omega), o40 (c + 3) (by omega), o24 (c + 3) (by omega)]) (by rw [o_67 (c + 4) (by omega), o60 (c + 4) (by omega), o_56 (c + 4) (by omega), o53 (c + 4) (by omega), o_43 (c + 4) (by omega), o40 (c + 4) (by omega), o24 (c + 4) (by omega)]) (by rw [o_67 (c + 5) (by omega), o60 (c + 5) (by omega), o_56 (c + 5) (by omega), o53 (c + 5) (by omega), o_43 (c + 5) (by omega), o40 (c + 5) (by omega), o24 (c + 5) (by omega)]) (by rw [o_67 (c + 6) (by omega), o60 (c + 6) (by omega), o_56 (c + 6) (by omega), o53 (c + 6) (by omega), o_43 (c + 6) (by omega), o40 (c + 6) (by omega), o24 (c + 6) (by omega)]) (by rw [o_67 (c + 7) (by omega), o60 (c + 7) (by omega), o_56 (c + 7) (by omega), o53 (c + 7) (by omega), o_43 (c + 7) (by omega), o40 (c + 7) (by omega), o24 (c + 7) (by omega)]) hK⟩
  · have hge : ¬ K 0 1 < 6 := fun q => c_8 (nI_lt q (by omega))
    refine ga_aload_n 0 dX6_readTower_11 rfl ?_
    refine ga_iconst (nI 3) dX6_readTower_12 (by decide) ?_
    refine ga_aload_n 0 dX6_readTower_13 rfl ?_
    refine ga_get kf_X6_23 (sh2 _) (gv hR.1.2.1) dX6_readTower_14 ?_
    refine gd_V2 km_X6_63 kv_X6_fail (c_X6_fail hR rw9) (sh2 _) rfl rfl (gt_rc0 (by decide)) (Nat.le_of_ble_eq_true rfl) dX6_readTower_17 (fun r_17 w_17 q_17 => ?_)
    obtain ⟨rfl, o17, hR17⟩ := q_17
    exact gd_vret dX6_readTower_20 ⟨rfl, fun a h1 h2 => o17 a h1, by unfold gx_tw; rw [if_pos (by omega)]; exact hR17, by unfold gx_twK; rw [if_pos (by omega)]; exact gx_Co_eq9 hc (fun a ha => o17 a (by omega)) hK⟩
set_option maxRecDepth 100000 in
set_option maxHeartbeats 4000000 in
theorem c_X6_readPlayer {l : Launch} {G : gt_G} {n : Nat} {w : gt_W} {c : Nat} {K : gx_K} {x : Nat → Nat} {L : Nat} {s : gx_T} (hc : gt_isC c) (hK : gx_Co w c K) (hR : gx_Rd w x L s) (rw9 : gx_RW x L s) (hC : 1 ≤ K 0 0 ∧ K 0 0 ≤ 10) (hT : K 0 2 ≤ 6) : gt_D l G yX6_readPlayer cX6_readPlayer 3 none 4 n [.ref 2, .ref c] w (fun r w' => r = none ∧ (∀ a, a ≠ 2 → (a < c ∨ c + 8 ≤ a) → w' a = w a) ∧ gx_Rd w' x L (gx_pl x L s K) ∧ gx_Co w' c (gx_plK x L s K)) := by
  have hl := gt_isC_lt hc
  refine gt_D_of (own := RX6) (nm := "readPlayer") rfl rfl (by decide +kernel) (Nat.le_of_ble_eq_true rfl) ?_
  show gt_A _ _ _ _ _ _ _ _ _ _ _ [(0, .ref 2), (1, .ref c)] _ _
  refine ga_aload_n 1 dX6_readPlayer_0 rfl ?_
  refine ga_get kf_X6_85 (shC hc _) (gv hK.1.2.2.1) dX6_readPlayer_1 ?_
  refine gs_istore_n [(0, _), (1, _), (2, _)] dX6_readPlayer_4 (by decide) rfl rfl ?_
  refine ga_iload_n 2 dX6_readPlayer_5 rfl ?_
  refine ga_bipush (nI 6) dX6_readPlayer_6 (by decide) ?_
  refine ga_icmp_lt 21 dX6_readPlayer_8 (by decide) (fun c_8 => ?_) (fun c_8 => ?_)
  · have hlt : K 0 2 < 6 := Decidable.byContradiction fun q => absurd c_8 (nI_nlt (by omega) (by omega))
    refine ga_aload_n 0 dX6_readPlayer_21 rfl ?_
    refine ga_bipush (nI 112) dX6_readPlayer_22 (by decide) ?_
    refine gd_V1 km_X6_45 kv_X6_takeSign (c_X6_takeSign (c9 := 112) hR rw9 (by decide)) (sh2 _) rfl rfl (gt_rc0 (by decide)) (Nat.le_of_ble_eq_true rfl) dX6_readPlayer_24 (fun r_24 w_24 q_24 => ?_)
    obtain ⟨rfl, o24, hR⟩ := q_24
    have rw1 := gx_RW_sgn rw9 112
    refine ga_aload_n 1 dX6_readPlayer_27 rfl ?_
    refine ga_get kf_X6_88 (shC hc _) rfl dX6_readPlayer_28 ?_
    refine ga_iload_n 2 dX6_readPlayer_31 rfl ?_
    refine ga_aload_n 0 dX6_readPlayer_32 rfl ?_
    refine ga_iconst (nI 1) dX6_readPlayer_33 (by decide) ?_
    refine ga_bipush (nI 9) dX6_readPlayer_34 (by decide) ?_
    refine gd_V2 km_X6_52 kv_X6_takeNumber (c_X6_takeNumber (lo := 1) (hi := 9) hR rw1 (by omega) (by omega)) (sh2 _) rfl rfl (gt_rc0 (by decide)) (Nat.le_of_ble_eq_true rfl) dX6_readPlayer_36 (fun r_36 w_36 q_36 => ?_)
    obtain ⟨rfl, o36, hR⟩ := q_36
    have rw1n := gx_RW_num rw1 1 9
    refine gw_iast (shC4 hc) (k := K 0 2) (gt_ixn (by omega)) dX6_readPlayer_39 (fun w_39 o_39 e_39 => ?_)
    have hR := gx_Rd_eq (o_39 2 (by omega)) (o_39 3 (by omega)) hR
    refine ga_aload_n 0 dX6_readPlayer_40 rfl ?_
    refine ga_bipush (nI 59) dX6_readPlayer_41 (by decide) ?_
    refine gd_V1 km_X6_45 kv_X6_takeSign (c_X6_takeSign (c9 := 59) hR rw1n (by decide)) (sh2 _) rfl rfl (gt_rc0 (by decide)) (Nat.le_of_ble_eq_true rfl) dX6_readPlayer_43 (fun r_43 w_43 q_43 => ?_)
    obtain ⟨rfl, o43, hR⟩ := q_43
    refine ga_aload_n 1 dX6_readPlayer_46 rfl ?_
    refine ga_iload_n 2 dX6_readPlayer_47 rfl ?_
    refine ga_iconst (nI 1) dX6_readPlayer_48 (by decide) ?_
    refine ga_iadd dX6_readPlayer_49 ?_
    refine ga_top (nI (K 0 2 + 1)) (nI_add _ 1) ?_
    refine gw_put 2 kp_X6_85 (shC hc _) (shC hc _) rfl rfl (Nat.le_of_ble_eq_true rfl) dX6_readPlayer_50 (fun w_50 o_50 e_50 => ?_)
    exact gd_vret dX6_readPlayer_53 ⟨rfl, fun a h1 h2 => by rw [o_50 a (by omega), o43 a (by omega), o_39 a (by omega), o36 a (by omega), o24 a (by omega)], by unfold gx_pl; rw [if_neg (by omega)]; exact gx_Rd_eq (o_50 2 (by omega)) (o_50 3 (by omega)) hR, by unfold gx_plK; rw [if_neg (by omega)]; exact gx_Co_pl (by rw [e_50, o43 c (by omega), o_39 c (by omega), o36 c (by omega), o24 c (by omega)]) (by rw [o_50 (c + 1) (by omega), o43 (c + 1) (by omega), o_39 (c + 1) (by omega), o36 (c + 1) (by omega), o24 (c + 1) (by omega)]) (by rw [o_50 (c + 2) (by omega), o43 (c + 2) (by omega), o_39 (c + 2) (by omega), o36 (c + 2) (by omega), o24 (c + 2) (by omega)]) (by rw [o_50 (c + 3) (by omega), o43 (c + 3) (by omega), o_39 (c + 3) (by omega), o36 (c + 3) (by omega), o24 (c + 3) (by omega)]) (by rw [o_50 (c + 4) (by omega), o43 (c + 4) (by omega), e_39, o36 (c + 4) (by omega), o24 (c + 4) (by omega)]) (by rw [o_50 (c + 5) (by omega), o43 (c + 5) (by omega), o_39 (c + 5) (by omega), o36 (c + 5) (by omega), o24 (c + 5) (by omega)]) (by rw [o_50 (c + 6) (by omega), o43 (c + 6) (by omega), o_39 (c + 6) (by omega), o36 (c + 6) (by omega), o24 (c + 6) (by omega)]) (by rw [o_50 (c + 7) (by omega), o43 (c + 7) (by omega), o_39 (c + 7) (by omega), o36 (c + 7) (by omega), o24 (c + 7) (by omega)]) hK⟩
  · have hge : ¬ K 0 2 < 6 := fun q => c_8 (nI_lt q (by omega))
    refine ga_aload_n 0 dX6_readPlayer_11 rfl ?_
    refine ga_iconst (nI 3) dX6_readPlayer_12 (by decide) ?_
    refine ga_aload_n 0 dX6_readPlayer_13 rfl ?_
    refine ga_get kf_X6_23 (sh2 _) (gv hR.1.2.1) dX6_readPlayer_14 ?_
    refine gd_V2 km_X6_63 kv_X6_fail (c_X6_fail hR rw9) (sh2 _) rfl rfl (gt_rc0 (by decide)) (Nat.le_of_ble_eq_true rfl) dX6_readPlayer_17 (fun r_17 w_17 q_17 => ?_)
    obtain ⟨rfl, o17, hR17⟩ := q_17
    exact gd_vret dX6_readPlayer_20 ⟨rfl, fun a h1 h2 => o17 a h1, by unfold gx_pl; rw [if_pos (by omega)]; exact hR17, by unfold gx_plK; rw [if_pos (by omega)]; exact gx_Co_eq9 hc (fun a ha => o17 a (by omega)) hK⟩
set_option maxRecDepth 100000 in
set_option maxHeartbeats 4000000 in
theorem c_X6_readBoat {l : Launch} {G : gt_G} {n : Nat} {w : gt_W} {c : Nat} {K : gx_K} {x : Nat → Nat} {L : Nat} {s : gx_T} (hc : gt_isC c) (hK : gx_Co w c K) (hR : gx_Rd w x L s) (rw9 : gx_RW x L s) (hC : 1 ≤ K 0 0 ∧ K 0 0 ≤ 10) (hT : K 0 3 ≤ 4) : gt_D l G yX6_readBoat cX6_readBoat 3 none 4 n [.ref 2, .ref c] w (fun r w' => r = none ∧ (∀ a, a ≠ 2 → (a < c ∨ c + 8 ≤ a) → w' a = w a) ∧ gx_Rd w' x L (gx_bo x L s K) ∧ gx_Co w' c (gx_boK x L s K)) := by
  have hl := gt_isC_lt hc
  refine gt_D_of (own := RX6) (nm := "readBoat") rfl rfl (by decide +kernel) (Nat.le_of_ble_eq_true rfl) ?_
  show gt_A _ _ _ _ _ _ _ _ _ _ _ [(0, .ref 2), (1, .ref c)] _ _
  refine ga_aload_n 1 dX6_readBoat_0 rfl ?_
  refine ga_get kf_X6_91 (shC hc _) (gv hK.1.2.2.2) dX6_readBoat_1 ?_
  refine gs_istore_n [(0, _), (1, _), (2, _)] dX6_readBoat_4 (by decide) rfl rfl ?_
  refine ga_iload_n 2 dX6_readBoat_5 rfl ?_
  refine ga_iconst (nI 4) dX6_readBoat_6 (by decide) ?_
  refine ga_icmp_lt 20 dX6_readBoat_7 (by decide) (fun c_7 => ?_) (fun c_7 => ?_)
  · have hlt : K 0 3 < 4 := Decidable.byContradiction fun q => absurd c_7 (nI_nlt (by omega) (by omega))
    refine ga_aload_n 0 dX6_readBoat_20 rfl ?_
    refine ga_bipush (nI 98) dX6_readBoat_21 (by decide) ?_
    refine gd_V1 km_X6_45 kv_X6_takeSign (c_X6_takeSign (c9 := 98) hR rw9 (by decide)) (sh2 _) rfl rfl (gt_rc0 (by decide)) (Nat.le_of_ble_eq_true rfl) dX6_readBoat_23 (fun r_23 w_23 q_23 => ?_)
    obtain ⟨rfl, o23, hR⟩ := q_23
    have rw1 := gx_RW_sgn rw9 98
    refine ga_aload_n 1 dX6_readBoat_26 rfl ?_
    refine ga_get kf_X6_94 (shC hc _) rfl dX6_readBoat_27 ?_
    refine ga_iload_n 2 dX6_readBoat_30 rfl ?_
    refine ga_aload_n 0 dX6_readBoat_31 rfl ?_
    refine ga_iconst (nI 1) dX6_readBoat_32 (by decide) ?_
    refine ga_bipush (nI 30) dX6_readBoat_33 (by decide) ?_
    refine gd_V2 km_X6_52 kv_X6_takeNumber (c_X6_takeNumber (lo := 1) (hi := 30) hR rw1 (by omega) (by omega)) (sh2 _) rfl rfl (gt_rc0 (by decide)) (Nat.le_of_ble_eq_true rfl) dX6_readBoat_35 (fun r_35 w_35 q_35 => ?_)
    obtain ⟨rfl, o35, hR⟩ := q_35
    have rw1n := gx_RW_num rw1 1 30
    refine gw_iast (shC5 hc) (k := K 0 3) (gt_ixn (by omega)) dX6_readBoat_38 (fun w_38 o_38 e_38 => ?_)
    have hR := gx_Rd_eq (o_38 2 (by omega)) (o_38 3 (by omega)) hR
    refine ga_aload_n 1 dX6_readBoat_39 rfl ?_
    refine ga_get kf_X6_97 (shC hc _) rfl dX6_readBoat_40 ?_
    refine ga_iload_n 2 dX6_readBoat_43 rfl ?_
    refine ga_aload_n 0 dX6_readBoat_44 rfl ?_
    refine ga_iconst (nI 0) dX6_readBoat_45 (by decide) ?_
    refine ga_aload_n 1 dX6_readBoat_46 rfl ?_
    refine ga_get kf_X6_56 (shC hc _) (gvv (nI (K 0 0)) (by rw [o_38 c (by omega), o35 c (by omega), o23 c (by omega)]; exact hK.1.1)) dX6_readBoat_47 ?_
    refine ga_iconst (nI 1) dX6_readBoat_50 (by decide) ?_
    refine ga_isub dX6_readBoat_51 ?_
    refine ga_top (nI (K 0 0 - 1)) (pk_sub (by omega)) ?_
    refine gd_V2 km_X6_52 kv_X6_takeNumber (c_X6_takeNumber (lo := 0) (hi := (K 0 0 - 1)) hR rw1n (by omega) (by omega)) (sh2 _) rfl rfl (gt_rc0 (by decide)) (Nat.le_of_ble_eq_true rfl) dX6_readBoat_52 (fun r_52 w_52 q_52 => ?_)
    obtain ⟨rfl, o52, hR⟩ := q_52
    have rw1nn := gx_RW_num rw1n 0 (K 0 0 - 1)
    refine gw_iast (shC6 hc) (k := K 0 3) (gt_ixn (by omega)) dX6_readBoat_55 (fun w_55 o_55 e_55 => ?_)
    have hR := gx_Rd_eq (o_55 2 (by omega)) (o_55 3 (by omega)) hR
    refine ga_aload_n 1 dX6_readBoat_56 rfl ?_
    refine ga_get kf_X6_100 (shC hc _) rfl dX6_readBoat_57 ?_
    refine ga_iload_n 2 dX6_readBoat_60 rfl ?_
    refine ga_aload_n 0 dX6_readBoat_61 rfl ?_
    refine ga_iconst (nI 0) dX6_readBoat_62 (by decide) ?_
    refine ga_aload_n 1 dX6_readBoat_63 rfl ?_
    refine ga_get kf_X6_56 (shC hc _) (gvv (nI (K 0 0)) (by rw [o_55 c (by omega), o52 c (by omega), o_38 c (by omega), o35 c (by omega), o23 c (by omega)]; exact hK.1.1)) dX6_readBoat_64 ?_
    refine ga_iconst (nI 1) dX6_readBoat_67 (by decide) ?_
    refine ga_isub dX6_readBoat_68 ?_
    refine ga_top (nI (K 0 0 - 1)) (pk_sub (by omega)) ?_
    refine gd_V2 km_X6_52 kv_X6_takeNumber (c_X6_takeNumber (lo := 0) (hi := (K 0 0 - 1)) hR rw1nn (by omega) (by omega)) (sh2 _) rfl rfl (gt_rc0 (by decide)) (Nat.le_of_ble_eq_true rfl) dX6_readBoat_69 (fun r_69 w_69 q_69 => ?_)
    obtain ⟨rfl, o69, hR⟩ := q_69
    have rw1nnn := gx_RW_num rw1nn 0 (K 0 0 - 1)
    refine gw_iast (shC7 hc) (k := K 0 3) (gt_ixn (by omega)) dX6_readBoat_72 (fun w_72 o_72 e_72 => ?_)
    have hR := gx_Rd_eq (o_72 2 (by omega)) (o_72 3 (by omega)) hR
    refine ga_aload_n 0 dX6_readBoat_73 rfl ?_
    refine ga_bipush (nI 59) dX6_readBoat_74 (by decide) ?_
    refine gd_V1 km_X6_45 kv_X6_takeSign (c_X6_takeSign (c9 := 59) hR rw1nnn (by decide)) (sh2 _) rfl rfl (gt_rc0 (by decide)) (Nat.le_of_ble_eq_true rfl) dX6_readBoat_76 (fun r_76 w_76 q_76 => ?_)
    obtain ⟨rfl, o76, hR⟩ := q_76
    refine ga_aload_n 1 dX6_readBoat_79 rfl ?_
    refine ga_iload_n 2 dX6_readBoat_80 rfl ?_
    refine ga_iconst (nI 1) dX6_readBoat_81 (by decide) ?_
    refine ga_iadd dX6_readBoat_82 ?_
    refine ga_top (nI (K 0 3 + 1)) (nI_add _ 1) ?_
    refine gw_put 3 kp_X6_91 (shC hc _) (shC hc _) rfl rfl (Nat.le_of_ble_eq_true rfl) dX6_readBoat_83 (fun w_83 o_83 e_83 => ?_)
    exact gd_vret dX6_readBoat_86 ⟨rfl, fun a h1 h2 => by rw [o_83 a (by omega), o76 a (by omega), o_72 a (by omega), o69 a (by omega), o_55 a (by omega), o52 a (by omega), o_38 a (by omega), o35 a (by omega), o23 a (by omega)], by unfold gx_bo; rw [if_neg (by omega)]; exact gx_Rd_eq (o_83 2 (by omega)) (o_83 3 (by omega)) hR, by unfold gx_boK; rw [if_neg (by omega)]; exact gx_Co_bo (by rw [e_83, o76 c (by omega), o_72 c (by omega), o69 c (by omega), o_55 c (by omega), o52 c (by omega), o_38 c (by omega), o35 c (by omega), o23 c (by omega)]) (by rw [o_83 (c + 1) (by omega), o76 (c + 1) (by omega), o_72 (c + 1) (by omega), o69 (c + 1) (by omega), o_55 (c + 1) (by omega), o52 (c + 1) (by omega), o_38 (c + 1) (by omega), o35 (c + 1) (by omega), o23 (c + 1) (by omega)]) (by rw [o_83 (c + 2) (by omega), o76 (c + 2) (by omega), o_72 (c + 2) (by omega), o69 (c + 2) (by omega), o_55 (c + 2) (by omega), o52 (c + 2) (by omega), o_38 (c + 2) (by omega), o35 (c + 2) (by omega), o23 (c + 2) (by omega)]) (by rw [o_83 (c + 3) (by omega), o76 (c + 3) (by omega), o_72 (c + 3) (by omega), o69 (c + 3) (by omega), o_55 (c + 3) (by omega), o52 (c + 3) (by omega), o_38 (c + 3) (by omega), o35 (c + 3) (by omega), o23 (c + 3) (by omega)]) (by rw [o_83 (c + 4) (by omega), o76 (c + 4) (by omega), o_72 (c + 4) (by omega), o69 (c + 4) (by omega), o_55 (c + 4) (by omega), o52 (c + 4) (by omega), o_38 (c + 4) (by omega), o35 (c + 4) (by omega), o23 (c + 4) (by omega)]) (by rw [o_83 (c + 5) (by omega), o76 (c + 5) (by omega), o_72 (c + 5) (by omega), o69 (c + 5) (by omega), o_55 (c + 5) (by omega), o52 (c + 5) (by omega), e_38, o35 (c + 5) (by omega), o23 (c + 5) (by omega)]) (by rw [o_83 (c + 6) (by omega), o76 (c + 6) (by omega), o_72 (c + 6) (by omega), o69 (c + 6) (by omega), e_55, o52 (c + 6) (by omega), o_38 (c + 6) (by omega), o35 (c + 6) (by omega), o23 (c + 6) (by omega)]) (by rw [o_83 (c + 7) (by omega), o76 (c + 7) (by omega), e_72, o69 (c + 7) (by omega), o_55 (c + 7) (by omega), o52 (c + 7) (by omega), o_38 (c + 7) (by omega), o35 (c + 7) (by omega), o23 (c + 7) (by omega)]) hK⟩
  · have hge : ¬ K 0 3 < 4 := fun q => c_7 (nI_lt q (by omega))
    refine ga_aload_n 0 dX6_readBoat_10 rfl ?_
    refine ga_iconst (nI 3) dX6_readBoat_11 (by decide) ?_
    refine ga_aload_n 0 dX6_readBoat_12 rfl ?_
    refine ga_get kf_X6_23 (sh2 _) (gv hR.1.2.1) dX6_readBoat_13 ?_
    refine gd_V2 km_X6_63 kv_X6_fail (c_X6_fail hR rw9) (sh2 _) rfl rfl (gt_rc0 (by decide)) (Nat.le_of_ble_eq_true rfl) dX6_readBoat_16 (fun r_16 w_16 q_16 => ?_)
    obtain ⟨rfl, o16, hR16⟩ := q_16
    exact gd_vret dX6_readBoat_19 ⟨rfl, fun a h1 h2 => o16 a h1, by unfold gx_bo; rw [if_pos (by omega)]; exact hR16, by unfold gx_boK; rw [if_pos (by omega)]; exact gx_Co_eq9 hc (fun a ha => o16 a (by omega)) hK⟩
