theorem gl_lt {L i : Nat} (hL : L ≤ 320) (hi : i ≤ 400) : nI L - nI 5 < nI i ↔ L < i + 5 := by
  rw [Int32.lt_iff_toInt_lt, pk_sub_toInt (by omega) (by omega), nI_toInt (by omega)]
  omega
set_option maxRecDepth 100000 in
set_option maxHeartbeats 4000000 in
theorem gl_body {l : Launch} {G : gt_G} {nm : String} {i : Nat} {w : gt_W} {c : Nat} {S : gx_Z} (hi : i + 5 ≤ G.2.2.2.2.1) (hL : G.2.2.2.2.1 ≤ 320) (hX : gx_XZ w c S) (hM : gx_MZ w S) (hW : gx_WZ S) (kk : ∀ (w' : gt_W) (c' : Nat) (S : gx_Z), gx_XZ w' c' S → gx_MZ w' S → gx_WZ S → gt_lw l G nm i 1078 w') : gt_lw l G nm i 26 w := by
  refine ga_aload_n 0 dL_law_26 rfl ?_
  refine ga_iload_n 3 dL_law_27 rfl ?_
  refine ga_sld (vp_in_nI (by omega) (by omega)) dL_law_28 ?_
  refine ga_bipush (nI 31) dL_law_29 (by decide) ?_
  refine ga_iand dL_law_31 ?_
  generalize (G.2.2.2.2.2 (nI i).toNatClampNeg) &&& nI 31 = sx
  rcases gx_sw sx 31 with sw | ⟨v, hv, sw⟩
  · refine ga_tableOut 1078 dL_law_32 (by simpa using sw) (by decide) ?_
    exact kk w c S hX hM hW
  obtain ⟨K, ⟨V, m⟩, hs, cnt, im, sd, x, Lt, fp, Q⟩ := S
  rcases (show v = 0 ∨ v = 1 ∨ v = 2 ∨ v = 3 ∨ v = 4 ∨ v = 5 ∨ v = 6 ∨ v = 7 ∨ v = 8 ∨ v = 9 ∨ v = 10 ∨ v = 11 ∨ v = 12 ∨ v = 13 ∨ v = 14 ∨ v = 15 ∨ v = 16 ∨ v = 17 ∨ v = 18 ∨ v = 19 ∨ v = 20 ∨ v = 21 ∨ v = 22 ∨ v = 23 ∨ v = 24 ∨ v = 25 ∨ v = 26 ∨ v = 27 ∨ v = 28 ∨ v = 29 ∨ v = 30 ∨ v = 31 by omega) with rfl | rfl | rfl | rfl | rfl | rfl | rfl | rfl | rfl | rfl | rfl | rfl | rfl | rfl | rfl | rfl | rfl | rfl | rfl | rfl | rfl | rfl | rfl | rfl | rfl | rfl | rfl | rfl | rfl | rfl | rfl | rfl
  · refine ga_top (nI 0) (by rw [sw]) ?_
    refine ga_tableIn 176 dL_law_32 (by decide) (by decide) rfl (by decide) ?_
    exact gl_c0 hi hL hX hM hW kk
  · refine ga_top (nI 1) (by rw [sw]) ?_
    refine ga_tableIn 199 dL_law_32 (by decide) (by decide) rfl (by decide) ?_
    exact gl_c1 hi hL hX hM hW kk
  · refine ga_top (nI 2) (by rw [sw]) ?_
    refine ga_tableIn 212 dL_law_32 (by decide) (by decide) rfl (by decide) ?_
    exact gl_c2 hi hL hX hM hW kk
  · refine ga_top (nI 3) (by rw [sw]) ?_
    refine ga_tableIn 225 dL_law_32 (by decide) (by decide) rfl (by decide) ?_
    exact gl_c3 hi hL hX hM hW kk
  · refine ga_top (nI 4) (by rw [sw]) ?_
    refine ga_tableIn 248 dL_law_32 (by decide) (by decide) rfl (by decide) ?_
    exact gl_c4 hi hL hX hM hW kk
  · refine ga_top (nI 5) (by rw [sw]) ?_
    refine ga_tableIn 281 dL_law_32 (by decide) (by decide) rfl (by decide) ?_
    exact gl_c5 hi hL hX hM hW kk
  · refine ga_top (nI 6) (by rw [sw]) ?_
    refine ga_tableIn 314 dL_law_32 (by decide) (by decide) rfl (by decide) ?_
    exact gl_c6 hi hL hX hM hW kk
  · refine ga_top (nI 7) (by rw [sw]) ?_
    refine ga_tableIn 347 dL_law_32 (by decide) (by decide) rfl (by decide) ?_
    exact gl_c7 hi hL hX hM hW kk
  · refine ga_top (nI 8) (by rw [sw]) ?_
    refine ga_tableIn 380 dL_law_32 (by decide) (by decide) rfl (by decide) ?_
    exact gl_c8 hi hL hX hM hW kk
  · refine ga_top (nI 9) (by rw [sw]) ?_
    refine ga_tableIn 403 dL_law_32 (by decide) (by decide) rfl (by decide) ?_
    exact gl_c9 hi hL hX hM hW kk
  · refine ga_top (nI 10) (by rw [sw]) ?_
    refine ga_tableIn 436 dL_law_32 (by decide) (by decide) rfl (by decide) ?_
    exact gl_c10 hi hL hX hM hW kk
  · refine ga_top (nI 11) (by rw [sw]) ?_
    refine ga_tableIn 459 dL_law_32 (by decide) (by decide) rfl (by decide) ?_
    exact gl_c11 hi hL hX hM hW kk
  · refine ga_top (nI 12) (by rw [sw]) ?_
    refine ga_tableIn 508 dL_law_32 (by decide) (by decide) rfl (by decide) ?_
    exact gl_c12 hi hL hX hM hW kk
  · refine ga_top (nI 13) (by rw [sw]) ?_
    refine ga_tableIn 541 dL_law_32 (by decide) (by decide) rfl (by decide) ?_
    exact gl_c13 hi hL hX hM hW kk
  · refine ga_top (nI 14) (by rw [sw]) ?_
    refine ga_tableIn 564 dL_law_32 (by decide) (by decide) rfl (by decide) ?_
    exact gl_c14 hi hL hX hM hW kk
  · refine ga_top (nI 15) (by rw [sw]) ?_
    refine ga_tableIn 587 dL_law_32 (by decide) (by decide) rfl (by decide) ?_
    exact gl_c15 hi hL hX hM hW kk
  · refine ga_top (nI 16) (by rw [sw]) ?_
    refine ga_tableIn 600 dL_law_32 (by decide) (by decide) rfl (by decide) ?_
    exact gl_c16 hi hL hX hM hW kk
  · refine ga_top (nI 17) (by rw [sw]) ?_
    refine ga_tableIn 643 dL_law_32 (by decide) (by decide) rfl (by decide) ?_
    exact gl_c17 hi hL hX hM hW kk
  · refine ga_top (nI 18) (by rw [sw]) ?_
    refine ga_tableIn 686 dL_law_32 (by decide) (by decide) rfl (by decide) ?_
    exact gl_c18 hi hL hX hM hW kk
  · refine ga_top (nI 19) (by rw [sw]) ?_
    refine ga_tableIn 709 dL_law_32 (by decide) (by decide) rfl (by decide) ?_
    exact gl_c19 hi hL hX hM hW kk
  · refine ga_top (nI 20) (by rw [sw]) ?_
    refine ga_tableIn 762 dL_law_32 (by decide) (by decide) rfl (by decide) ?_
    exact gl_c20 hi hL hX hM hW kk
  · refine ga_top (nI 21) (by rw [sw]) ?_
    refine ga_tableIn 785 dL_law_32 (by decide) (by decide) rfl (by decide) ?_
    exact gl_c21 hi hL hX hM hW kk
  · refine ga_top (nI 22) (by rw [sw]) ?_
    refine ga_tableIn 818 dL_law_32 (by decide) (by decide) rfl (by decide) ?_
    exact gl_c22 hi hL hX hM hW kk
  · refine ga_top (nI 23) (by rw [sw]) ?_
    refine ga_tableIn 851 dL_law_32 (by decide) (by decide) rfl (by decide) ?_
    exact gl_c23 hi hL hX hM hW kk
  · refine ga_top (nI 24) (by rw [sw]) ?_
    refine ga_tableIn 894 dL_law_32 (by decide) (by decide) rfl (by decide) ?_
    exact gl_c24 hi hL hX hM hW kk
  · refine ga_top (nI 25) (by rw [sw]) ?_
    refine ga_tableIn 907 dL_law_32 (by decide) (by decide) rfl (by decide) ?_
    exact gl_c25 hi hL hX hM hW kk
  · refine ga_top (nI 26) (by rw [sw]) ?_
    refine ga_tableIn 950 dL_law_32 (by decide) (by decide) rfl (by decide) ?_
    exact gl_c26 hi hL hX hM hW kk
  · refine ga_top (nI 27) (by rw [sw]) ?_
    refine ga_tableIn 983 dL_law_32 (by decide) (by decide) rfl (by decide) ?_
    exact gl_c27 hi hL hX hM hW kk
  · refine ga_top (nI 28) (by rw [sw]) ?_
    refine ga_tableIn 996 dL_law_32 (by decide) (by decide) rfl (by decide) ?_
    exact gl_c28 hi hL hX hM hW kk
  · refine ga_top (nI 29) (by rw [sw]) ?_
    refine ga_tableIn 1009 dL_law_32 (by decide) (by decide) rfl (by decide) ?_
    exact gl_c29 hi hL hX hM hW kk
  · refine ga_top (nI 30) (by rw [sw]) ?_
    refine ga_tableIn 1032 dL_law_32 (by decide) (by decide) rfl (by decide) ?_
    exact gl_c30 hi hL hX hM hW kk
  · refine ga_top (nI 31) (by rw [sw]) ?_
    refine ga_tableIn 1055 dL_law_32 (by decide) (by decide) rfl (by decide) ?_
    exact gl_c31 hi hL hX hM hW kk
set_option maxRecDepth 100000 in
set_option maxHeartbeats 4000000 in
theorem law_loop {l : Launch} {G : gt_G} {nm : String} (hL : G.2.2.2.2.1 ≤ 320) : ∀ (f i : Nat) (w : gt_W) (c : Nat) (S : gx_Z), G.2.2.2.2.1 < i + f → i ≤ 400 → gx_XZ w c S → gx_MZ w S → gx_WZ S → gt_lw l G nm i 18 w := by
  intro f
  induction f with
  | zero =>
    intro i w c S h1 h2 hX hM hW
    refine ga_iload_n 3 dL_law_18 rfl ?_
    refine ga_aload_n 0 dL_law_19 rfl ?_
    refine ga_slen dL_law_20 ?_
    refine ga_iconst (nI 5) dL_law_21 (by decide) ?_
    refine ga_isub dL_law_22 ?_
    refine ga_icmp_gt 1084 dL_law_23 (by decide) (fun c_23 => ?_) (fun c_23 => absurd ((gl_lt hL h2).mpr (by omega)) c_23)
    refine ga_iconst (nI 1) dL_law_1084 (by decide) ?_
    exact gl_ret dL_law_1085 (by show 175 ≤ 600000; decide) (by show 4466 ≤ 7302250; decide)
  | succ f ih =>
    intro i w c S h1 h2 hX hM hW
    refine ga_iload_n 3 dL_law_18 rfl ?_
    refine ga_aload_n 0 dL_law_19 rfl ?_
    refine ga_slen dL_law_20 ?_
    refine ga_iconst (nI 5) dL_law_21 (by decide) ?_
    refine ga_isub dL_law_22 ?_
    refine ga_icmp_gt 1084 dL_law_23 (by decide) (fun c_23 => ?_) (fun c_23 => ?_)
    · refine ga_iconst (nI 1) dL_law_1084 (by decide) ?_
      exact gl_ret dL_law_1085 (by show 175 ≤ 600000; decide) (by show 4466 ≤ 7302250; decide)
    · have hi : i + 5 ≤ G.2.2.2.2.1 := Nat.le_of_not_lt (fun q => c_23 ((gl_lt hL h2).mpr q))
      refine gl_body hi hL hX hM hW (fun w' c' S' hX' hM' hW' => ?_)
      refine gs_iincN 3 5 [(0, _), (1, _), (2, _), (3, _)] dL_law_1078 rfl (by decide) (by decide) rfl rfl ?_
      refine ga_goto 18 dL_law_1081 (by decide) ?_
      exact ih (i + 5) w' c' S' (by omega) (by omega) hX' hM' hW'
set_option maxRecDepth 100000 in
set_option maxHeartbeats 4000000 in
theorem law_main {l : Launch} {G : gt_G} {nm : String} (hL : G.2.2.2.2.1 ≤ 320) : gt_A l G RL nm cL_law 4 (some .boolean) room_1 (gt_ZL G.2.2.1 (gt_B G)) (0, 0, 0) 0 [(0, .ref 0)] [] (gt_lst []) := by
  refine ga_new kn_L_7 rfl (Nat.le_of_ble_eq_true rfl) (Nat.le_of_ble_eq_true rfl) dL_law_0 ?_
  refine ga_heap (gt_lst_push (L := []) (n := 0) rfl) ?_
  refine ga_dup dL_law_3 rfl ?_
  refine ga_callI km_L_9 kv_X9_init c_X9_init ⟨Nat.le_of_ble_eq_true rfl, Nat.le_of_ble_eq_true rfl, Nat.le_of_ble_eq_true rfl, Nat.le_of_ble_eq_true rfl⟩ (Nat.le_of_ble_eq_true rfl) dL_law_4 ?_
  refine gs_astore_n [(0, _), (1, _)] dL_law_7 (by decide) rfl rfl ?_
  refine ga_new kn_L_10 rfl (Nat.le_of_ble_eq_true rfl) (Nat.le_of_ble_eq_true rfl) dL_law_8 ?_
  refine ga_heap (gt_lst_push (L := gt_LC) (n := 160) gt_LC_len) ?_
  refine ga_dup dL_law_11 rfl ?_
  refine gee_callI km_L_12 kv_X10_init (c_X10_init gt_LC_len gt_start) ⟨Nat.le_of_ble_eq_true rfl, Nat.le_of_ble_eq_true rfl, Nat.le_of_ble_eq_true rfl, Nat.le_of_ble_eq_true rfl⟩ (Nat.le_of_ble_eq_true rfl) dL_law_12 (fun r w q => ?_)
  obtain ⟨rfl, q1, q2, q3, q4, q5, q6, q7, q8, q9⟩ := q
  refine gs_astore_n [(0, _), (1, _), (2, _)] dL_law_15 (by decide) rfl rfl ?_
  refine ga_iconst (nI 0) dL_law_16 (by decide) ?_
  refine gs_istore_n [(0, _), (1, _), (2, _), (3, _)] dL_law_17 (by decide) rfl rfl ?_
  exact law_loop hL (G.2.2.2.2.1 + 1) 0 w 4 gt_S0 (by omega) (by decide) (gt_S0_X q1) (gt_S0_M q1 q2 q3 q4 q5 q6 q7 q8 q9) gt_S0_W
