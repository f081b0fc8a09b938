set_option maxRecDepth 100000 in
set_option maxHeartbeats 4000000 in
theorem c_X10_fault {l : Launch} {G : gt_G} {n : Nat} {w : gt_W} {K V : gx_K} {m : Int32} {hs : Nat → gx_K × Int32} {cnt : Nat} {im : Nat → Nat × (gx_K × Int32) × Nat} {sd : Nat} {x : Nat → Nat} {L fp : Nat} {Q : gx_K} (hX : gx_M w K V m hs cnt im sd x L fp Q) (hW : gx_WF K V m hs cnt im sd x L fp Q)  : gt_D l G yX10_fault cX10_fault 1 (some .int) 1 n [.ref 161] w (fun r w' => r = some (.int (gx_seat fp)) ∧ gx_M w' K V m hs cnt im sd x L fp Q ∧ ∀ a, a < 161 → w' a = w a) := by
  obtain ⟨hM, hV, hpast, him, hsd, htx, hfp, hQ⟩ := id hX
  obtain ⟨kw, vw, vd, hhr, hcnt, hhs, him2, hsd2, hxL, hfp2, qw⟩ := id hW
  refine gt_D_of (own := RX10) (nm := "fault") rfl rfl (by decide +kernel) (Nat.le_of_ble_eq_true rfl) ?_
  show gt_A _ _ _ _ _ _ _ _ _ _ _ [(0, .ref 161)] _ _
  refine ga_aload_n 0 dX10_fault_0 rfl ?_
  refine ga_get kf_X10_35 (sh161 _) (gv hfp) dX10_fault_1 ?_
  exact gd_iret dX10_fault_4 ⟨rfl, hX, fun _ _ => rfl⟩
set_option maxRecDepth 100000 in
set_option maxHeartbeats 4000000 in
theorem c_X10_cell {l : Launch} {G : gt_G} {n : Nat} {w : gt_W} {K V : gx_K} {m : Int32} {hs : Nat → gx_K × Int32} {cnt : Nat} {im : Nat → Nat × (gx_K × Int32) × Nat} {sd : Nat} {x : Nat → Nat} {L fp : Nat} {Q : gx_K} (hX : gx_M w K V m hs cnt im sd x L fp Q) (hW : gx_WF K V m hs cnt im sd x L fp Q) (a9 t9 : Int32) : gt_D l G yX10_cell cX10_cell 3 (some .int) 5 n [.ref 161, .int a9, .int t9] w (fun r w' => r = some (.int (aCell K V a9 t9)) ∧ gx_M w' K V m hs cnt im sd x L fp Q ∧ ∀ a, a < 161 → w' a = w a) := by
  obtain ⟨hM, hV, hpast, him, hsd, htx, hfp, hQ⟩ := id hX
  obtain ⟨kw, vw, vd, hhr, hcnt, hhs, him2, hsd2, hxL, hfp2, qw⟩ := id hW
  refine gt_D_of (own := RX10) (nm := "cell") rfl rfl (by decide +kernel) (Nat.le_of_ble_eq_true rfl) ?_
  show gt_A _ _ _ _ _ _ _ _ _ _ _ [(0, .ref 161), (1, .int a9), (2, .int t9)] _ _
  refine ga_aload_n 0 dX10_cell_0 rfl ?_
  refine ga_iload_n 1 dX10_cell_1 rfl ?_
  refine ga_V1 km_X10_188 kv_X10_isCell (c_X10_isCell hM kw a9) (sh161 _) rfl rfl (gt_rc0 (by decide)) (Nat.le_of_ble_eq_true rfl) dX10_cell_2 ?_
  refine ga_if_ne 11 dX10_cell_5 (by decide) (fun c_5 => ?_) (fun c_5 => ?_)
  · obtain ⟨k, hk, rfl⟩ := gx_in_of (by have := kw.1; have := kw.2.1; have := kw.2.2.1; have := kw.2.2.2.1; omega) c_5
    have ek : (nI k).toNatClampNeg = k := nI_clamp (by have := kw.1; have := kw.2.1; have := kw.2.2.1; have := kw.2.2.2.1; omega)
    refine ga_iload_n 2 dX10_cell_11 rfl ?_
    rcases gx_sw t9 3 with sw_12 | ⟨v_12, hv_12, sw_12⟩
    · refine ga_tableOut 79 dX10_cell_12 (by simpa using sw_12) (by decide) ?_
      refine ga_ldc kc_X10_86 dX10_cell_79 ?_
      exact gd_iret dX10_cell_81 ⟨gv (by unfold aCell; rw [if_neg c_5, if_neg (gx_out sw_12 (by decide) (by decide)), if_neg (gx_out sw_12 (by decide) (by decide)), if_neg (gx_out sw_12 (by decide) (by decide)), if_neg (gx_out sw_12 (by decide) (by decide))]), hX, fun _ _ => rfl⟩
    rcases (show v_12 = 0 ∨ v_12 = 1 ∨ v_12 = 2 ∨ v_12 = 3 by omega) with rfl | rfl | rfl | rfl
    · refine ga_top (nI 0) (by rw [sw_12]) ?_
      refine ga_tableIn 44 dX10_cell_12 (by decide) (by decide) rfl (by decide) ?_
      refine ga_aload_n 0 dX10_cell_44 rfl ?_
      refine ga_get kf_X10_7 (sh161 _) rfl dX10_cell_45 ?_
      refine ga_iconst (nI 4) dX10_cell_48 (by decide) ?_
      refine ga_iload_n 1 dX10_cell_49 rfl ?_
      refine ga_iadd dX10_cell_50 ?_
      refine gm_C1 hM kw hk dX10_cell_51 ?_
      exact gd_iret dX10_cell_52 ⟨gv (by rw [sw_12]; unfold aCell; rw [if_neg c_5, if_pos rfl, ek]), hX, fun _ _ => rfl⟩
    · refine ga_top (nI 1) (by rw [sw_12]) ?_
      refine ga_tableIn 53 dX10_cell_12 (by decide) (by decide) rfl (by decide) ?_
      refine ga_aload_n 0 dX10_cell_53 rfl ?_
      refine ga_aload_n 0 dX10_cell_54 rfl ?_
      refine ga_get kf_X10_16 (sh161 _) rfl dX10_cell_55 ?_
      refine ga_iload_n 1 dX10_cell_58 rfl ?_
      refine ga_V2 km_X10_155 kv_X10_seaOn (c_X10_seaOn hM kw as164 hV vw (by have := kw.1; omega)) (sh161 _) rfl rfl (gt_rc0 (by decide)) (Nat.le_of_ble_eq_true rfl) dX10_cell_59 ?_
      exact gd_iret dX10_cell_62 ⟨gv (by rw [sw_12]; unfold aCell; rw [if_neg c_5, if_neg (by decide), if_pos rfl, ek]), hX, fun _ _ => rfl⟩
    · refine ga_top (nI 2) (by rw [sw_12]) ?_
      refine ga_tableIn 63 dX10_cell_12 (by decide) (by decide) rfl (by decide) ?_
      refine ga_aload_n 0 dX10_cell_63 rfl ?_
      refine ga_aload_n 0 dX10_cell_64 rfl ?_
      refine ga_get kf_X10_16 (sh161 _) rfl dX10_cell_65 ?_
      refine ga_iload_n 1 dX10_cell_68 rfl ?_
      refine ga_V2 km_X10_166 kv_X10_depthOn (c_X10_depthOn hM kw as164 hV vw hk) (sh161 _) rfl rfl (gt_rc0 (by decide)) (Nat.le_of_ble_eq_true rfl) dX10_cell_69 ?_
      exact gd_iret dX10_cell_72 ⟨gv (by rw [sw_12]; unfold aCell; rw [if_neg c_5, if_neg (by decide), if_neg (by decide), if_pos rfl, ek]), hX, fun _ _ => rfl⟩
    · refine ga_top (nI 3) (by rw [sw_12]) ?_
      refine ga_tableIn 73 dX10_cell_12 (by decide) (by decide) rfl (by decide) ?_
      refine ga_aload_n 0 dX10_cell_73 rfl ?_
      refine ga_iload_n 1 dX10_cell_74 rfl ?_
      refine ga_V1 km_X10_192 kv_X10_strongest (c_X10_strongest hM kw hV vw (by have := kw.1; omega)) (sh161 _) rfl rfl (gt_rc0 (by decide)) (Nat.le_of_ble_eq_true rfl) dX10_cell_75 ?_
      exact gd_iret dX10_cell_78 ⟨gv (by rw [sw_12]; unfold aCell; rw [if_neg c_5, if_neg (by decide), if_neg (by decide), if_neg (by decide), if_pos rfl, ek]), hX, fun _ _ => rfl⟩
  · refine ga_ldc kc_X10_191 dX10_cell_8 ?_
    exact gd_iret dX10_cell_10 ⟨gv (by unfold aCell; rw [if_pos c_5]), hX, fun _ _ => rfl⟩
set_option maxRecDepth 100000 in
set_option maxHeartbeats 4000000 in
theorem c_X10_tower {l : Launch} {G : gt_G} {n : Nat} {w : gt_W} {K V : gx_K} {m : Int32} {hs : Nat → gx_K × Int32} {cnt : Nat} {im : Nat → Nat × (gx_K × Int32) × Nat} {sd : Nat} {x : Nat → Nat} {L fp : Nat} {Q : gx_K} (hX : gx_M w K V m hs cnt im sd x L fp Q) (hW : gx_WF K V m hs cnt im sd x L fp Q) (a9 t9 : Int32) : gt_D l G yX10_tower cX10_tower 3 (some .int) 5 n [.ref 161, .int a9, .int t9] w (fun r w' => r = some (.int (aTower K V a9 t9)) ∧ gx_M w' K V m hs cnt im sd x L fp Q ∧ ∀ a, a < 161 → w' a = w a) := by
  obtain ⟨hM, hV, hpast, him, hsd, htx, hfp, hQ⟩ := id hX
  obtain ⟨kw, vw, vd, hhr, hcnt, hhs, him2, hsd2, hxL, hfp2, qw⟩ := id hW
  refine gt_D_of (own := RX10) (nm := "tower") rfl rfl (by decide +kernel) (Nat.le_of_ble_eq_true rfl) ?_
  show gt_A _ _ _ _ _ _ _ _ _ _ _ [(0, .ref 161), (1, .int a9), (2, .int t9)] _ _
  refine ga_aload_n 0 dX10_tower_0 rfl ?_
  refine ga_iload_n 1 dX10_tower_1 rfl ?_
  refine ga_V1 km_X10_196 kv_X10_isTower (c_X10_isTower hM kw a9) (sh161 _) rfl rfl (gt_rc0 (by decide)) (Nat.le_of_ble_eq_true rfl) dX10_tower_2 ?_
  refine ga_if_ne 11 dX10_tower_5 (by decide) (fun c_5 => ?_) (fun c_5 => ?_)
  · obtain ⟨k, hk, rfl⟩ := gx_in_of (by have := kw.1; have := kw.2.1; have := kw.2.2.1; have := kw.2.2.2.1; omega) c_5
    have ek : (nI k).toNatClampNeg = k := nI_clamp (by have := kw.1; have := kw.2.1; have := kw.2.2.1; have := kw.2.2.2.1; omega)
    refine ga_iload_n 2 dX10_tower_11 rfl ?_
    rcases gx_sw t9 3 with sw_12 | ⟨v_12, hv_12, sw_12⟩
    · refine ga_tableOut 83 dX10_tower_12 (by simpa using sw_12) (by decide) ?_
      refine ga_ldc kc_X10_86 dX10_tower_83 ?_
      exact gd_iret dX10_tower_85 ⟨gv (by unfold aTower; rw [if_neg c_5, if_neg (gx_out sw_12 (by decide) (by decide)), if_neg (gx_out sw_12 (by decide) (by decide)), if_neg (gx_out sw_12 (by decide) (by decide)), if_neg (gx_out sw_12 (by decide) (by decide))]), hX, fun _ _ => rfl⟩
    rcases (show v_12 = 0 ∨ v_12 = 1 ∨ v_12 = 2 ∨ v_12 = 3 by omega) with rfl | rfl | rfl | rfl
    · refine ga_top (nI 0) (by rw [sw_12]) ?_
      refine ga_tableIn 44 dX10_tower_12 (by decide) (by decide) rfl (by decide) ?_
      refine ga_aload_n 0 dX10_tower_44 rfl ?_
      refine ga_get kf_X10_7 (sh161 _) rfl dX10_tower_45 ?_
      refine ga_bipush (nI 14) dX10_tower_48 (by decide) ?_
      refine ga_iload_n 1 dX10_tower_50 rfl ?_
      refine ga_iadd dX10_tower_51 ?_
      refine gm_C2 hM kw hk dX10_tower_52 ?_
      exact gd_iret dX10_tower_53 ⟨gv (by rw [sw_12]; unfold aTower; rw [if_neg c_5, if_pos rfl, ek]), hX, fun _ _ => rfl⟩
    · refine ga_top (nI 1) (by rw [sw_12]) ?_
      refine ga_tableIn 54 dX10_tower_12 (by decide) (by decide) rfl (by decide) ?_
      refine ga_aload_n 0 dX10_tower_54 rfl ?_
      refine ga_get kf_X10_7 (sh161 _) rfl dX10_tower_55 ?_
      refine ga_bipush (nI 20) dX10_tower_58 (by decide) ?_
      refine ga_iload_n 1 dX10_tower_60 rfl ?_
      refine ga_iadd dX10_tower_61 ?_
      refine gm_C3 hM kw hk dX10_tower_62 ?_
      exact gd_iret dX10_tower_63 ⟨gv (by rw [sw_12]; unfold aTower; rw [if_neg c_5, if_neg (by decide), if_pos rfl, ek]), hX, fun _ _ => rfl⟩
    · refine ga_top (nI 2) (by rw [sw_12]) ?_
      refine ga_tableIn 64 dX10_tower_12 (by decide) (by decide) rfl (by decide) ?_
      refine ga_aload_n 0 dX10_tower_64 rfl ?_
      refine ga_get kf_X10_16 (sh161 _) rfl dX10_tower_65 ?_
      refine ga_iconst (nI 0) dX10_tower_68 (by decide) ?_
      refine ga_iload_n 1 dX10_tower_69 rfl ?_
      refine ga_iadd dX10_tower_70 ?_
      refine gm_S1 sh164 hV kw hk dX10_tower_71 ?_
      exact gd_iret dX10_tower_72 ⟨gv (by rw [sw_12]; unfold aTower; rw [if_neg c_5, if_neg (by decide), if_neg (by decide), if_pos rfl, ek]), hX, fun _ _ => rfl⟩
    · refine ga_top (nI 3) (by rw [sw_12]) ?_
      refine ga_tableIn 73 dX10_tower_12 (by decide) (by decide) rfl (by decide) ?_
      refine ga_aload_n 0 dX10_tower_73 rfl ?_
      refine ga_aload_n 0 dX10_tower_74 rfl ?_
      refine ga_get kf_X10_16 (sh161 _) rfl dX10_tower_75 ?_
      refine ga_iload_n 1 dX10_tower_78 rfl ?_
      refine ga_V2 km_X10_199 kv_X10_sitterOn (c_X10_sitterOn hM kw as164 hV vw vd (by have := kw.2.1; omega)) (sh161 _) rfl rfl (gt_rc0 (by decide)) (Nat.le_of_ble_eq_true rfl) dX10_tower_79 ?_
      exact gd_iret dX10_tower_82 ⟨gv (by rw [sw_12]; unfold aTower; rw [if_neg c_5, if_neg (by decide), if_neg (by decide), if_neg (by decide), if_pos rfl, ek]), hX, fun _ _ => rfl⟩
  · refine ga_ldc kc_X10_191 dX10_tower_8 ?_
    exact gd_iret dX10_tower_10 ⟨gv (by unfold aTower; rw [if_pos c_5]), hX, fun _ _ => rfl⟩
set_option maxRecDepth 100000 in
set_option maxHeartbeats 4000000 in
theorem c_X10_player {l : Launch} {G : gt_G} {n : Nat} {w : gt_W} {K V : gx_K} {m : Int32} {hs : Nat → gx_K × Int32} {cnt : Nat} {im : Nat → Nat × (gx_K × Int32) × Nat} {sd : Nat} {x : Nat → Nat} {L fp : Nat} {Q : gx_K} (hX : gx_M w K V m hs cnt im sd x L fp Q) (hW : gx_WF K V m hs cnt im sd x L fp Q) (a9 t9 : Int32) : gt_D l G yX10_player cX10_player 3 (some .int) 5 n [.ref 161, .int a9, .int t9] w (fun r w' => r = some (.int (aPlayer K V m a9 t9)) ∧ gx_M w' K V m hs cnt im sd x L fp Q ∧ ∀ a, a < 161 → w' a = w a) := by
  obtain ⟨hM, hV, hpast, him, hsd, htx, hfp, hQ⟩ := id hX
  obtain ⟨kw, vw, vd, hhr, hcnt, hhs, him2, hsd2, hxL, hfp2, qw⟩ := id hW
  refine gt_D_of (own := RX10) (nm := "player") rfl rfl (by decide +kernel) (Nat.le_of_ble_eq_true rfl) ?_
  show gt_A _ _ _ _ _ _ _ _ _ _ _ [(0, .ref 161), (1, .int a9), (2, .int t9)] _ _
  refine ga_aload_n 0 dX10_player_0 rfl ?_
  refine ga_iload_n 1 dX10_player_1 rfl ?_
  refine ga_V1 km_X10_202 kv_X10_isPlayer (c_X10_isPlayer hM kw a9) (sh161 _) rfl rfl (gt_rc0 (by decide)) (Nat.le_of_ble_eq_true rfl) dX10_player_2 ?_
  refine ga_if_ne 11 dX10_player_5 (by decide) (fun c_5 => ?_) (fun c_5 => ?_)
  · obtain ⟨k, hk, rfl⟩ := gx_in_of (by have := kw.1; have := kw.2.1; have := kw.2.2.1; have := kw.2.2.2.1; omega) c_5
    have ek : (nI k).toNatClampNeg = k := nI_clamp (by have := kw.1; have := kw.2.1; have := kw.2.2.1; have := kw.2.2.2.1; omega)
    refine ga_iload_n 2 dX10_player_11 rfl ?_
    rcases gx_sw t9 3 with sw_12 | ⟨v_12, hv_12, sw_12⟩
    · refine ga_tableOut 86 dX10_player_12 (by simpa using sw_12) (by decide) ?_
      refine ga_ldc kc_X10_86 dX10_player_86 ?_
      exact gd_iret dX10_player_88 ⟨gv (by unfold aPlayer; rw [if_neg c_5, if_neg (gx_out sw_12 (by decide) (by decide)), if_neg (gx_out sw_12 (by decide) (by decide)), if_neg (gx_out sw_12 (by decide) (by decide)), if_neg (gx_out sw_12 (by decide) (by decide))]), hX, fun _ _ => rfl⟩
    rcases (show v_12 = 0 ∨ v_12 = 1 ∨ v_12 = 2 ∨ v_12 = 3 by omega) with rfl | rfl | rfl | rfl
    · refine ga_top (nI 0) (by rw [sw_12]) ?_
      refine ga_tableIn 44 dX10_player_12 (by decide) (by decide) rfl (by decide) ?_
      refine ga_aload_n 0 dX10_player_44 rfl ?_
      refine ga_get kf_X10_7 (sh161 _) rfl dX10_player_45 ?_
      refine ga_bipush (nI 26) dX10_player_48 (by decide) ?_
      refine ga_iload_n 1 dX10_player_50 rfl ?_
      refine ga_iadd dX10_player_51 ?_
      refine gm_C4 hM kw hk dX10_player_52 ?_
      exact gd_iret dX10_player_53 ⟨gv (by rw [sw_12]; unfold aPlayer; rw [if_neg c_5, if_pos rfl, ek]), hX, fun _ _ => rfl⟩
    · refine ga_top (nI 1) (by rw [sw_12]) ?_
      refine ga_tableIn 54 dX10_player_12 (by decide) (by decide) rfl (by decide) ?_
      refine ga_aload_n 0 dX10_player_54 rfl ?_
      refine ga_get kf_X10_16 (sh161 _) rfl dX10_player_55 ?_
      refine ga_bipush (nI 6) dX10_player_58 (by decide) ?_
      refine ga_iload_n 1 dX10_player_60 rfl ?_
      refine ga_iadd dX10_player_61 ?_
      refine gm_S3 sh164 hV kw hk dX10_player_62 ?_
      exact gd_iret dX10_player_63 ⟨gv (by rw [sw_12]; unfold aPlayer; rw [if_neg c_5, if_neg (by decide), if_pos rfl, ek]), hX, fun _ _ => rfl⟩
    · refine ga_top (nI 2) (by rw [sw_12]) ?_
      refine ga_tableIn 64 dX10_player_12 (by decide) (by decide) rfl (by decide) ?_
      refine ga_aload_n 0 dX10_player_64 rfl ?_
      refine ga_get kf_X10_16 (sh161 _) rfl dX10_player_65 ?_
      refine ga_bipush (nI 12) dX10_player_68 (by decide) ?_
      refine ga_iload_n 1 dX10_player_70 rfl ?_
      refine ga_iadd dX10_player_71 ?_
      refine gm_S2 sh164 hV kw hk dX10_player_72 ?_
      exact gd_iret dX10_player_73 ⟨gv (by rw [sw_12]; unfold aPlayer; rw [if_neg c_5, if_neg (by decide), if_neg (by decide), if_pos rfl, ek]), hX, fun _ _ => rfl⟩
    · refine ga_top (nI 3) (by rw [sw_12]) ?_
      refine ga_tableIn 74 dX10_player_12 (by decide) (by decide) rfl (by decide) ?_
      refine ga_aload_n 0 dX10_player_74 rfl ?_
      refine ga_get kf_X10_16 (sh161 _) rfl dX10_player_75 ?_
      refine ga_bipush (nI 18) dX10_player_78 (by decide) ?_
      refine gm_sm sh164 hV dX10_player_80 ?_
      refine ga_iload_n 1 dX10_player_81 rfl ?_
      refine ga_ishr dX10_player_82 ?_
      refine ga_iconst (nI 1) dX10_player_83 (by decide) ?_
      refine ga_iand dX10_player_84 ?_
      exact gd_iret dX10_player_85 ⟨gv (by rw [sw_12]; unfold aPlayer; rw [if_neg c_5, if_neg (by decide), if_neg (by decide), if_neg (by decide), if_pos rfl, gx_slpB_bit m (by have := kw.2.2.1; omega)]), hX, fun _ _ => rfl⟩
  · refine ga_ldc kc_X10_191 dX10_player_8 ?_
    exact gd_iret dX10_player_10 ⟨gv (by unfold aPlayer; rw [if_pos c_5]), hX, fun _ _ => rfl⟩
set_option maxRecDepth 100000 in
set_option maxHeartbeats 4000000 in
theorem c_X10_boat {l : Launch} {G : gt_G} {n : Nat} {w : gt_W} {K V : gx_K} {m : Int32} {hs : Nat → gx_K × Int32} {cnt : Nat} {im : Nat → Nat × (gx_K × Int32) × Nat} {sd : Nat} {x : Nat → Nat} {L fp : Nat} {Q : gx_K} (hX : gx_M w K V m hs cnt im sd x L fp Q) (hW : gx_WF K V m hs cnt im sd x L fp Q) (a9 t9 : Int32) : gt_D l G yX10_boat cX10_boat 3 (some .int) 5 n [.ref 161, .int a9, .int t9] w (fun r w' => r = some (.int (aBoat K V a9 t9)) ∧ gx_M w' K V m hs cnt im sd x L fp Q ∧ ∀ a, a < 161 → w' a = w a) := by
  obtain ⟨hM, hV, hpast, him, hsd, htx, hfp, hQ⟩ := id hX
  obtain ⟨kw, vw, vd, hhr, hcnt, hhs, him2, hsd2, hxL, hfp2, qw⟩ := id hW
  refine gt_D_of (own := RX10) (nm := "boat") rfl rfl (by decide +kernel) (Nat.le_of_ble_eq_true rfl) ?_
  show gt_A _ _ _ _ _ _ _ _ _ _ _ [(0, .ref 161), (1, .int a9), (2, .int t9)] _ _
  refine ga_aload_n 0 dX10_boat_0 rfl ?_
  refine ga_iload_n 1 dX10_boat_1 rfl ?_
  refine ga_V1 km_X10_205 kv_X10_isBoat (c_X10_isBoat hM kw a9) (sh161 _) rfl rfl (gt_rc0 (by decide)) (Nat.le_of_ble_eq_true rfl) dX10_boat_2 ?_
  refine ga_if_ne 11 dX10_boat_5 (by decide) (fun c_5 => ?_) (fun c_5 => ?_)
  · obtain ⟨k, hk, rfl⟩ := gx_in_of (by have := kw.1; have := kw.2.1; have := kw.2.2.1; have := kw.2.2.2.1; omega) c_5
    have ek : (nI k).toNatClampNeg = k := nI_clamp (by have := kw.1; have := kw.2.1; have := kw.2.2.1; have := kw.2.2.2.1; omega)
    refine ga_iload_n 2 dX10_boat_11 rfl ?_
    rcases gx_sw t9 3 with sw_12 | ⟨v_12, hv_12, sw_12⟩
    · refine ga_tableOut 84 dX10_boat_12 (by simpa using sw_12) (by decide) ?_
      refine ga_ldc kc_X10_86 dX10_boat_84 ?_
      exact gd_iret dX10_boat_86 ⟨gv (by unfold aBoat; rw [if_neg c_5, if_neg (gx_out sw_12 (by decide) (by decide)), if_neg (gx_out sw_12 (by decide) (by decide)), if_neg (gx_out sw_12 (by decide) (by decide)), if_neg (gx_out sw_12 (by decide) (by decide))]), hX, fun _ _ => rfl⟩
    rcases (show v_12 = 0 ∨ v_12 = 1 ∨ v_12 = 2 ∨ v_12 = 3 by omega) with rfl | rfl | rfl | rfl
    · refine ga_top (nI 0) (by rw [sw_12]) ?_
      refine ga_tableIn 44 dX10_boat_12 (by decide) (by decide) rfl (by decide) ?_
      refine ga_aload_n 0 dX10_boat_44 rfl ?_
      refine ga_get kf_X10_7 (sh161 _) rfl dX10_boat_45 ?_
      refine ga_bipush (nI 32) dX10_boat_48 (by decide) ?_
      refine ga_iload_n 1 dX10_boat_50 rfl ?_
      refine ga_iadd dX10_boat_51 ?_
      refine gm_C5 hM kw hk dX10_boat_52 ?_
      exact gd_iret dX10_boat_53 ⟨gv (by rw [sw_12]; unfold aBoat; rw [if_neg c_5, if_pos rfl, ek]), hX, fun _ _ => rfl⟩
    · refine ga_top (nI 1) (by rw [sw_12]) ?_
      refine ga_tableIn 54 dX10_boat_12 (by decide) (by decide) rfl (by decide) ?_
      refine ga_aload_n 0 dX10_boat_54 rfl ?_
      refine ga_get kf_X10_16 (sh161 _) rfl dX10_boat_55 ?_
      refine ga_bipush (nI 19) dX10_boat_58 (by decide) ?_
      refine ga_iload_n 1 dX10_boat_60 rfl ?_
      refine ga_iadd dX10_boat_61 ?_
      refine gm_S4 sh164 hV kw hk dX10_boat_62 ?_
      exact gd_iret dX10_boat_63 ⟨gv (by rw [sw_12]; unfold aBoat; rw [if_neg c_5, if_neg (by decide), if_pos rfl, ek]), hX, fun _ _ => rfl⟩
    · refine ga_top (nI 2) (by rw [sw_12]) ?_
      refine ga_tableIn 64 dX10_boat_12 (by decide) (by decide) rfl (by decide) ?_
      refine ga_aload_n 0 dX10_boat_64 rfl ?_
      refine ga_get kf_X10_7 (sh161 _) rfl dX10_boat_65 ?_
      refine ga_bipush (nI 36) dX10_boat_68 (by decide) ?_
      refine ga_iload_n 1 dX10_boat_70 rfl ?_
      refine ga_iadd dX10_boat_71 ?_
      refine gm_C6 hM kw hk dX10_boat_72 ?_
      exact gd_iret dX10_boat_73 ⟨gv (by rw [sw_12]; unfold aBoat; rw [if_neg c_5, if_neg (by decide), if_neg (by decide), if_pos rfl, ek]), hX, fun _ _ => rfl⟩
    · refine ga_top (nI 3) (by rw [sw_12]) ?_
      refine ga_tableIn 74 dX10_boat_12 (by decide) (by decide) rfl (by decide) ?_
      refine ga_aload_n 0 dX10_boat_74 rfl ?_
      refine ga_get kf_X10_7 (sh161 _) rfl dX10_boat_75 ?_
      refine ga_bipush (nI 40) dX10_boat_78 (by decide) ?_
      refine ga_iload_n 1 dX10_boat_80 rfl ?_
      refine ga_iadd dX10_boat_81 ?_
      refine gm_C7 hM kw hk dX10_boat_82 ?_
      exact gd_iret dX10_boat_83 ⟨gv (by rw [sw_12]; unfold aBoat; rw [if_neg c_5, if_neg (by decide), if_neg (by decide), if_neg (by decide), if_pos rfl, ek]), hX, fun _ _ => rfl⟩
  · refine ga_ldc kc_X10_191 dX10_boat_8 ?_
    exact gd_iret dX10_boat_10 ⟨gv (by unfold aBoat; rw [if_pos c_5]), hX, fun _ _ => rfl⟩
set_option maxRecDepth 100000 in
set_option maxHeartbeats 4000000 in
theorem c_X10_sea {l : Launch} {G : gt_G} {n : Nat} {w : gt_W} {K V : gx_K} {m : Int32} {hs : Nat → gx_K × Int32} {cnt : Nat} {im : Nat → Nat × (gx_K × Int32) × Nat} {sd : Nat} {x : Nat → Nat} {L fp : Nat} {Q : gx_K} (hX : gx_M w K V m hs cnt im sd x L fp Q) (hW : gx_WF K V m hs cnt im sd x L fp Q) (a9 n9 t9 : Int32) : gt_D l G yX10_sea cX10_sea 5 (some .int) 5 n [.ref 161, .int a9, .int n9, .int t9] w (fun r w' => r = some (.int (aSea K V m a9 n9 t9)) ∧ gx_M w' K V m hs cnt im sd x L fp Q ∧ ∀ a, a < 161 → w' a = w a) := by
  obtain ⟨hM, hV, hpast, him, hsd, htx, hfp, hQ⟩ := id hX
  obtain ⟨kw, vw, vd, hhr, hcnt, hhs, him2, hsd2, hxL, hfp2, qw⟩ := id hW
  refine gt_D_of (own := RX10) (nm := "sea") rfl rfl (by decide +kernel) (Nat.le_of_ble_eq_true rfl) ?_
  show gt_A _ _ _ _ _ _ _ _ _ _ _ [(0, .ref 161), (1, .int a9), (2, .int n9), (3, .int t9)] _ _
  refine ga_aload_n 0 dX10_sea_0 rfl ?_
  refine ga_iload_n 1 dX10_sea_1 rfl ?_
  refine ga_V1 km_X10_188 kv_X10_isCell (c_X10_isCell hM kw a9) (sh161 _) rfl rfl (gt_rc0 (by decide)) (Nat.le_of_ble_eq_true rfl) dX10_sea_2 ?_
  refine ga_if_ne 11 dX10_sea_5 (by decide) (fun c_5 => ?_) (fun c_5 => ?_)
  · obtain ⟨k, hk, rfl⟩ := gx_in_of (by have := kw.1; have := kw.2.1; have := kw.2.2.1; have := kw.2.2.2.1; omega) c_5
    have ek : (nI k).toNatClampNeg = k := nI_clamp (by have := kw.1; have := kw.2.1; have := kw.2.2.1; have := kw.2.2.2.1; omega)
    refine ga_iload_n 2 dX10_sea_11 rfl ?_
    refine ga_i2l dX10_sea_12 ?_
    refine ga_lconst 0 dX10_sea_13 (by decide) ?_
    refine ga_ldc2_w kc_X10_255 dX10_sea_14 ?_
    refine ga_S3 km_X10_64 kv_X10_in (c_X10_in (x := n9) (a := nI 0) (b := nI 100) rfl (by decide) (by decide)) (gt_rc0 (by decide)) (Nat.le_of_ble_eq_true rfl) dX10_sea_17 ?_
    refine ga_if_eq 33 dX10_sea_20 (by decide) (fun c_20 => ?_) (fun c_20 => ?_)
    · have hno : gx_wi n9 (nI 0) (nI 100) = 0 ∨ gx_wi t9 (nI 0) (nI 1) = 0 := Or.inl c_20
      refine ga_ldc kc_X10_86 dX10_sea_33 ?_
      exact gd_iret dX10_sea_35 ⟨gv (by unfold aSea; rw [if_neg c_5, if_pos hno]), hX, fun _ _ => rfl⟩
    · refine ga_iload_n 3 dX10_sea_23 rfl ?_
      refine ga_i2l dX10_sea_24 ?_
      refine ga_lconst 0 dX10_sea_25 (by decide) ?_
      refine ga_lconst 1 dX10_sea_26 (by decide) ?_
      refine ga_S3 km_X10_64 kv_X10_in (c_X10_in (x := t9) (a := nI 0) (b := nI 1) rfl (by decide) (by decide)) (gt_rc0 (by decide)) (Nat.le_of_ble_eq_true rfl) dX10_sea_27 ?_
      refine ga_if_ne 36 dX10_sea_30 (by decide) (fun c_30 => ?_) (fun c_30 => ?_)
      · have hyes : ¬ (gx_wi n9 (nI 0) (nI 100) = 0 ∨ gx_wi t9 (nI 0) (nI 1) = 0) := fun q => q.elim c_20 c_30
        obtain ⟨N, hNl, hN, rfl⟩ := gx_wi_of (by decide) (by decide) c_20
        have eN : (nI N).toNatClampNeg = N := nI_clamp (by omega)
        refine ga_aload_n 0 dX10_sea_36 rfl ?_
        refine gd_V0 km_X10_257 kv_X10_layAside c_X10_layAside (sh161 _) rfl rfl (gt_rc0 (by decide)) (Nat.le_of_ble_eq_true rfl) dX10_sea_37 (fun r_37 w_37 q_37 => ?_)
        obtain ⟨rfl, oL, hcp⟩ := q_37
        have hT := hcp K V m kw hV
        have hX1 := gx_M_eq (fun b q1 q2 q3 q4 q5 q6 => oL b q3) (fun q _ => congrFun (oL 161 (by decide)) q) hX
        have hF : ∀ a, a < 161 → w_37 a = w a := fun a ha => oL a (by omega)
        have hM := hX1.1
        have hV := hX1.2.1
        refine ga_iconst (nI 0) dX10_sea_40 (by decide) ?_
        refine gs_istore [(0, _), (1, _), (2, _), (3, _), (4, _)] dX10_sea_41 (by decide) rfl rfl ?_
        have loop : ∀ j t, t + j = N → ∀ w1 : gt_W, gx_M w1 K V m hs cnt im sd x L fp Q → gx_ms (w1 165) K (gx_wn K V m t) m → (∀ a, a < 161 → w1 a = w a) → gt_A l G RX10 "sea" cX10_sea 5 (some .int) (gt_rm 5 0 0) (gt_ZD G n (fun r w' => r = some (.int (aSea K V m (nI k) (nI N) t9)) ∧ gx_M w' K V m hs cnt im sd x L fp Q ∧ ∀ a, a < 161 → w' a = w a)) (n, 0, 0) 43 [(0, .ref 161), (1, .int (nI k)), (2, .int (nI N)), (3, .int t9), (4, .int (nI t))] [] (gt_enc w1) := by
          intro j
          induction j with
          | zero =>
            intro t ht w1 hX1 hT hF
            have et : t = N := by omega
            have hM := hX1.1
            have hV := hX1.2.1
            refine ga_iload 4 dX10_sea_43 rfl ?_
            refine ga_iload_n 2 dX10_sea_45 rfl ?_
            refine ga_icmp_ge 63 dX10_sea_46 (by decide) (fun c_46 => ?_) (fun c_46 => absurd (nI_le (by omega) (by omega)) c_46)
            refine ga_iload_n 3 dX10_sea_63 rfl ?_
            refine ga_if_ne 79 dX10_sea_64 (by decide) (fun c_64 => ?_) (fun c_64 => ?_)
            · refine ga_aload_n 0 dX10_sea_79 rfl ?_
              refine ga_aload_n 0 dX10_sea_80 rfl ?_
              refine ga_get kf_X10_19 (sh161 _) rfl dX10_sea_81 ?_
              refine ga_iload_n 1 dX10_sea_84 rfl ?_
              refine ga_V2 km_X10_166 kv_X10_depthOn (c_X10_depthOn hM kw as165 hT (gx_wn_VW vw t) hk) (sh161 _) rfl rfl (gt_rc0 (by decide)) (Nat.le_of_ble_eq_true rfl) dX10_sea_85 ?_
              exact gd_iret dX10_sea_88 ⟨gv (by unfold aSea; rw [if_neg c_5, if_neg hyes, ek, eN, ← et]; first | exact (if_pos c_64).symm | exact (if_neg c_64).symm), hX1, hF⟩
            · refine ga_aload_n 0 dX10_sea_67 rfl ?_
              refine ga_aload_n 0 dX10_sea_68 rfl ?_
              refine ga_get kf_X10_19 (sh161 _) rfl dX10_sea_69 ?_
              refine ga_iload_n 1 dX10_sea_72 rfl ?_
              refine ga_V2 km_X10_155 kv_X10_seaOn (c_X10_seaOn hM kw as165 hT (gx_wn_VW vw t) (by have := kw.1; omega)) (sh161 _) rfl rfl (gt_rc0 (by decide)) (Nat.le_of_ble_eq_true rfl) dX10_sea_73 ?_
              refine ga_goto 88 dX10_sea_76 (by decide) ?_
              exact gd_iret dX10_sea_88 ⟨gv (by unfold aSea; rw [if_neg c_5, if_neg hyes, ek, eN, ← et]; first | exact (if_pos c_64).symm | exact (if_neg c_64).symm), hX1, hF⟩
          | succ j ih =>
            intro t ht w1 hX1 hT hF
            have hM := hX1.1
            have hV := hX1.2.1
            refine ga_iload 4 dX10_sea_43 rfl ?_
            refine ga_iload_n 2 dX10_sea_45 rfl ?_
            refine ga_icmp_ge 63 dX10_sea_46 (by decide) (fun c_46 => absurd c_46 (nI_ge (by omega) (by omega))) (fun c_46 => ?_)
            refine ga_aload_n 0 dX10_sea_49 rfl ?_
            refine ga_aload_n 0 dX10_sea_50 rfl ?_
            refine ga_get kf_X10_19 (sh161 _) rfl dX10_sea_51 ?_
            refine gd_V1 km_X10_215 kv_X10_winds (c_X10_winds hM kw as165 hT (gx_wn_VW vw t)) (sh161 _) rfl rfl (gt_rc0 (by decide)) (Nat.le_of_ble_eq_true rfl) dX10_sea_54 (fun r_54 w_54 q_54 => ?_)
            obtain ⟨rfl, o1, hT⟩ := q_54
            have hX1 := gx_M_eq (fun b q1 q2 q3 q4 q5 q6 => o1 b q3) (fun q _ => congrFun (o1 161 (by decide)) q) hX1
            have hF : ∀ a, a < 161 → w_54 a = w a := fun a ha => (o1 a (by omega)).trans (hF a ha)
            have hM := hX1.1
            refine gs_iincN 4 1 [(0, _), (1, _), (2, _), (3, _), (4, _)] dX10_sea_57 rfl (by decide) (by decide) rfl rfl ?_
            refine ga_goto 43 dX10_sea_60 (by decide) ?_
            exact ih (t + 1) (by omega) _ hX1 hT hF
        exact loop N 0 (by omega) _ hX1 hT hF
      · have hno : gx_wi n9 (nI 0) (nI 100) = 0 ∨ gx_wi t9 (nI 0) (nI 1) = 0 := Or.inr c_30
        refine ga_ldc kc_X10_86 dX10_sea_33 ?_
        exact gd_iret dX10_sea_35 ⟨gv (by unfold aSea; rw [if_neg c_5, if_pos hno]), hX, fun _ _ => rfl⟩
  · refine ga_ldc kc_X10_191 dX10_sea_8 ?_
    exact gd_iret dX10_sea_10 ⟨gv (by unfold aSea; rw [if_pos c_5]), hX, fun _ _ => rfl⟩
theorem gx_gre {f : Nat → Nat} (hf : ∀ i, f i ≤ 1000) (t : Nat) : (if nI (f t) < gx_lva f (gx_arg f t) then gx_lva f (gx_arg f t) else nI (f t)) = gx_lva f (gx_arg f (t + 1)) := by
  by_cases h0 : gx_arg f t = 0
  · rw [h0, gx_arg_t (Or.inl h0), gx_lva_s]
    rw [if_neg]
    show ¬ nI (f t) < -1
    exact fun q => gx_lt_m1 (f t) (by have := hf t; omega) (Int32.le_of_lt q)
  · have l1 := hf t
    have l2 := hf (gx_arg f t - 1)
    by_cases h1 : f (gx_arg f t - 1) < f t
    · rw [gx_arg_t (Or.inr h1), gx_lva_s, gx_lva_p h0, if_neg (nI_nlt (by omega) (by omega))]
    · rw [gx_arg_f (fun q => q.elim h0 h1), gx_lva_p h0]
      by_cases h2 : f t < f (gx_arg f t - 1)
      · rw [if_pos (nI_lt h2 (by omega))]
      · rw [if_neg (nI_nlt (by omega) (by omega)), show f t = f (gx_arg f t - 1) by omega]
theorem gx_whn {f : Nat → Nat} (hf : ∀ i, f i ≤ 1000) {t : Nat} (h : nI (f t) ≤ gx_lva f (gx_arg f t)) : gx_arg f (t + 1) = gx_arg f t := by
  have l1 := hf t
  have l2 := hf (gx_arg f t - 1)
  have h0 : ¬ gx_arg f t = 0 := fun q => by
    rw [q] at h
    exact gx_lt_m1 (f t) (by omega) h
  rw [gx_lva_p h0] at h
  exact gx_arg_f (fun q => q.elim h0 (fun q => absurd q (Nat.not_lt.mpr ((nI_leI (by omega) (by omega)).mp h))))
theorem gx_whn' {f : Nat → Nat} (hf : ∀ i, f i ≤ 1000) {t : Nat} (h : ¬ nI (f t) ≤ gx_lva f (gx_arg f t)) : gx_arg f (t + 1) = t + 1 := by
  have l1 := hf t
  have l2 := hf (gx_arg f t - 1)
  by_cases h0 : gx_arg f t = 0
  · exact gx_arg_t (Or.inl h0)
  · rw [gx_lva_p h0] at h
    exact gx_arg_t (Or.inr (Nat.not_le.mp (fun q => h (nI_le q (by omega)))))
set_option maxRecDepth 100000 in
set_option maxHeartbeats 4000000 in
theorem c_X10_deepest {l : Launch} {G : gt_G} {n : Nat} {w : gt_W} {K V : gx_K} {m : Int32} {hs : Nat → gx_K × Int32} {cnt : Nat} {im : Nat → Nat × (gx_K × Int32) × Nat} {sd : Nat} {x : Nat → Nat} {L fp : Nat} {Q : gx_K} (hX : gx_M w K V m hs cnt im sd x L fp Q) (hW : gx_WF K V m hs cnt im sd x L fp Q) (a9 n9 t9 : Int32) : gt_D l G yX10_deepest cX10_deepest 8 (some .int) 5 n [.ref 161, .int a9, .int n9, .int t9] w (fun r w' => r = some (.int (aDeep K V m a9 n9 t9)) ∧ gx_M w' K V m hs cnt im sd x L fp Q ∧ ∀ a, a < 161 → w' a = w a) := by
  obtain ⟨hM, hV, hpast, him, hsd, htx, hfp, hQ⟩ := id hX
  obtain ⟨kw, vw, vd, hhr, hcnt, hhs, him2, hsd2, hxL, hfp2, qw⟩ := id hW
  refine gt_D_of (own := RX10) (nm := "deepest") rfl rfl (by decide +kernel) (Nat.le_of_ble_eq_true rfl) ?_
  show gt_A _ _ _ _ _ _ _ _ _ _ _ [(0, .ref 161), (1, .int a9), (2, .int n9), (3, .int t9)] _ _
  refine ga_aload_n 0 dX10_deepest_0 rfl ?_
  refine ga_iload_n 1 dX10_deepest_1 rfl ?_
  refine ga_V1 km_X10_188 kv_X10_isCell (c_X10_isCell hM kw a9) (sh161 _) rfl rfl (gt_rc0 (by decide)) (Nat.le_of_ble_eq_true rfl) dX10_deepest_2 ?_
  refine ga_if_ne 11 dX10_deepest_5 (by decide) (fun c_5 => ?_) (fun c_5 => ?_)
  · obtain ⟨k, hk, rfl⟩ := gx_in_of (by have := kw.1; have := kw.2.1; have := kw.2.2.1; have := kw.2.2.2.1; omega) c_5
    have ek : (nI k).toNatClampNeg = k := nI_clamp (by have := kw.1; have := kw.2.1; have := kw.2.2.1; have := kw.2.2.2.1; omega)
    refine ga_iload_n 2 dX10_deepest_11 rfl ?_
    refine ga_i2l dX10_deepest_12 ?_
    refine ga_lconst 0 dX10_deepest_13 (by decide) ?_
    refine ga_ldc2_w kc_X10_255 dX10_deepest_14 ?_
    refine ga_S3 km_X10_64 kv_X10_in (c_X10_in (x := n9) (a := nI 0) (b := nI 100) rfl (by decide) (by decide)) (gt_rc0 (by decide)) (Nat.le_of_ble_eq_true rfl) dX10_deepest_17 ?_
    refine ga_if_eq 33 dX10_deepest_20 (by decide) (fun c_20 => ?_) (fun c_20 => ?_)
    · have hno : gx_wi n9 (nI 0) (nI 100) = 0 ∨ gx_wi t9 (nI 0) (nI 1) = 0 := Or.inl c_20
      refine ga_ldc kc_X10_86 dX10_deepest_33 ?_
      exact gd_iret dX10_deepest_35 ⟨gv (by unfold aDeep; rw [if_neg c_5, if_pos hno]), hX, fun _ _ => rfl⟩
    · refine ga_iload_n 3 dX10_deepest_23 rfl ?_
      refine ga_i2l dX10_deepest_24 ?_
      refine ga_lconst 0 dX10_deepest_25 (by decide) ?_
      refine ga_lconst 1 dX10_deepest_26 (by decide) ?_
      refine ga_S3 km_X10_64 kv_X10_in (c_X10_in (x := t9) (a := nI 0) (b := nI 1) rfl (by decide) (by decide)) (gt_rc0 (by decide)) (Nat.le_of_ble_eq_true rfl) dX10_deepest_27 ?_
      refine ga_if_ne 36 dX10_deepest_30 (by decide) (fun c_30 => ?_) (fun c_30 => ?_)
      · have hyes : ¬ (gx_wi n9 (nI 0) (nI 100) = 0 ∨ gx_wi t9 (nI 0) (nI 1) = 0) := fun q => q.elim c_20 c_30
        obtain ⟨N, hNl, hN, rfl⟩ := gx_wi_of (by decide) (by decide) c_20
        have eN : (nI N).toNatClampNeg = N := nI_clamp (by omega)
        refine ga_aload_n 0 dX10_deepest_36 rfl ?_
        refine gd_V0 km_X10_257 kv_X10_layAside c_X10_layAside (sh161 _) rfl rfl (gt_rc0 (by decide)) (Nat.le_of_ble_eq_true rfl) dX10_deepest_37 (fun r_37 w_37 q_37 => ?_)
        obtain ⟨rfl, oL, hcp⟩ := q_37
        have hT := hcp K V m kw hV
        have hX1 := gx_M_eq (fun b q1 q2 q3 q4 q5 q6 => oL b q3) (fun q _ => congrFun (oL 161 (by decide)) q) hX
        have hF : ∀ a, a < 161 → w_37 a = w a := fun a ha => oL a (by omega)
        have hM := hX1.1
        have hV := hX1.2.1
        refine ga_iconst ((-1)) dX10_deepest_40 (by decide) ?_
        refine gs_istore [(0, _), (1, _), (2, _), (3, _), (4, _)] dX10_deepest_41 (by decide) rfl rfl ?_
        refine ga_iconst (nI 0) dX10_deepest_43 (by decide) ?_
        refine gs_istore [(0, _), (1, _), (2, _), (3, _), (4, _), (5, _)] dX10_deepest_44 (by decide) rfl rfl ?_
        refine ga_iconst (nI 0) dX10_deepest_46 (by decide) ?_
        refine gs_istore [(0, _), (1, _), (2, _), (3, _), (4, _), (5, _), (6, _)] dX10_deepest_47 (by decide) rfl rfl ?_
        have loop : ∀ j t, t + j = N + 1 → ∀ w1 : gt_W, gx_M w1 K V m hs cnt im sd x L fp Q → gx_ms (w1 165) K (gx_wn K V m t) m → (∀ a, a < 161 → w1 a = w a) → gt_A l G RX10 "deepest" cX10_deepest 8 (some .int) (gt_rm 5 0 0) (gt_ZD G n (fun r w' => r = some (.int (aDeep K V m (nI k) (nI N) t9)) ∧ gx_M w' K V m hs cnt im sd x L fp Q ∧ ∀ a, a < 161 → w' a = w a)) (n, 0, 0) 49 [(0, .ref 161), (1, .int (nI k)), (2, .int (nI N)), (3, .int t9), (4, .int (gx_lva (gx_dpt K V m k) (gx_arg (gx_dpt K V m k) t))), (5, .int (nI (gx_arg (gx_dpt K V m k) t - 1))), (6, .int (nI t))] [] (gt_enc w1) := by
          intro j
          induction j with
          | zero =>
            intro t ht w1 hX1 hT hF
            have et : t = N + 1 := by omega
            have hM := hX1.1
            have hV := hX1.2.1
            refine ga_iload 6 dX10_deepest_49 rfl ?_
            refine ga_iload_n 2 dX10_deepest_51 rfl ?_
            refine ga_icmp_gt 105 dX10_deepest_52 (by decide) (fun c_52 => ?_) (fun c_52 => absurd (nI_lt (by omega) (by omega)) c_52)
            refine ga_iload_n 3 dX10_deepest_105 rfl ?_
            refine ga_if_ne 114 dX10_deepest_106 (by decide) (fun c_106 => ?_) (fun c_106 => ?_)
            · refine ga_iload 4 dX10_deepest_114 rfl ?_
              exact gd_iret dX10_deepest_116 ⟨gv (by unfold aDeep; rw [if_neg c_5, if_neg hyes, ek, eN, ← et]; first | exact (if_pos c_106).symm | (rw [if_neg c_106]; exact gx_lva_p (by have := gx_arg_pos (gx_dpt K V m k) (n := t) (by omega); omega))), hX1, hF⟩
            · refine ga_iload 5 dX10_deepest_109 rfl ?_
              refine ga_goto 116 dX10_deepest_111 (by decide) ?_
              exact gd_iret dX10_deepest_116 ⟨gv (by unfold aDeep; rw [if_neg c_5, if_neg hyes, ek, eN, ← et]; first | exact (if_pos c_106).symm | (rw [if_neg c_106]; exact gx_lva_p (by have := gx_arg_pos (gx_dpt K V m k) (n := t) (by omega); omega))), hX1, hF⟩
          | succ j ih =>
            intro t ht w1 hX1 hT hF
            have hM := hX1.1
            have hV := hX1.2.1
            have hfb : ∀ i, gx_dpt K V m k i ≤ 1000 := fun i => by have := gx_dpt_le (m := m) kw vw k i; omega
            refine ga_iload 6 dX10_deepest_49 rfl ?_
            refine ga_iload_n 2 dX10_deepest_51 rfl ?_
            refine ga_icmp_gt 105 dX10_deepest_52 (by decide) (fun c_52 => absurd c_52 (nI_nlt (by omega) (by omega))) (fun c_52 => ?_)
            refine ga_aload_n 0 dX10_deepest_55 rfl ?_
            refine ga_aload_n 0 dX10_deepest_56 rfl ?_
            refine ga_get kf_X10_19 (sh161 _) rfl dX10_deepest_57 ?_
            refine ga_iload_n 1 dX10_deepest_60 rfl ?_
            refine ga_V2 km_X10_166 kv_X10_depthOn (c_X10_depthOn hM kw as165 hT (gx_wn_VW vw t) hk) (sh161 _) rfl rfl (gt_rc0 (by decide)) (Nat.le_of_ble_eq_true rfl) dX10_deepest_61 ?_
            refine gs_istore [(0, _), (1, _), (2, _), (3, _), (4, _), (5, _), (6, _), (7, _)] dX10_deepest_64 (by decide) rfl rfl ?_
            refine ga_iload 7 dX10_deepest_66 rfl ?_
            refine ga_iload 4 dX10_deepest_68 rfl ?_
            refine ga_icmp_le 78 dX10_deepest_70 (by decide) (fun c_70 => ?_) (fun c_70 => ?_)
            · have e9 := gx_whn (f := (gx_dpt K V m k)) hfb c_70
              refine ga_iload 5 dX10_deepest_78 rfl ?_
              refine gs_istore [(0, _), (1, _), (2, _), (3, _), (4, _), (5, _), (6, _), (7, _)] dX10_deepest_80 (by decide) rfl rfl ?_
              refine ga_iload 4 dX10_deepest_82 rfl ?_
              refine ga_iload 7 dX10_deepest_84 rfl ?_
              refine ga_S2 km_X10_147 kv_X10_greater c_X10_greater (gt_rc0 (by decide)) (Nat.le_of_ble_eq_true rfl) dX10_deepest_86 ?_
              refine ga_top _ (gx_gre (f := (gx_dpt K V m k)) hfb t) ?_
              refine gs_istore [(0, _), (1, _), (2, _), (3, _), (4, _), (5, _), (6, _), (7, _)] dX10_deepest_89 (by decide) rfl rfl ?_
              refine ga_aload_n 0 dX10_deepest_91 rfl ?_
              refine ga_aload_n 0 dX10_deepest_92 rfl ?_
              refine ga_get kf_X10_19 (sh161 _) rfl dX10_deepest_93 ?_
              refine gd_V1 km_X10_215 kv_X10_winds (c_X10_winds hM kw as165 hT (gx_wn_VW vw t)) (sh161 _) rfl rfl (gt_rc0 (by decide)) (Nat.le_of_ble_eq_true rfl) dX10_deepest_96 (fun r_96 w_96 q_96 => ?_)
              obtain ⟨rfl, o1, hT⟩ := q_96
              have hX1 := gx_M_eq (fun b q1 q2 q3 q4 q5 q6 => o1 b q3) (fun q _ => congrFun (o1 161 (by decide)) q) hX1
              have hF : ∀ a, a < 161 → w_96 a = w a := fun a ha => (o1 a (by omega)).trans (hF a ha)
              have hM := hX1.1
              refine gs_iincN 6 1 [(0, _), (1, _), (2, _), (3, _), (4, _), (5, _), (6, _), (7, _)] dX10_deepest_99 rfl (by decide) (by decide) rfl rfl ?_
              refine ga_goto 49 dX10_deepest_102 (by decide) ?_
              refine ga_take 7 ?_
              have h9 := ih (t + 1) (by omega) _ hX1 hT hF
              first | (rw [e9] at h9 ⊢; exact h9) | (rw [e9] at h9 ⊢; rw [Nat.add_sub_cancel] at h9; exact h9)
            · have e9 := gx_whn' (f := (gx_dpt K V m k)) hfb c_70
              refine ga_iload 6 dX10_deepest_73 rfl ?_
              refine ga_goto 80 dX10_deepest_75 (by decide) ?_
              refine gs_istore [(0, _), (1, _), (2, _), (3, _), (4, _), (5, _), (6, _), (7, _)] dX10_deepest_80 (by decide) rfl rfl ?_
              refine ga_iload 4 dX10_deepest_82 rfl ?_
              refine ga_iload 7 dX10_deepest_84 rfl ?_
              refine ga_S2 km_X10_147 kv_X10_greater c_X10_greater (gt_rc0 (by decide)) (Nat.le_of_ble_eq_true rfl) dX10_deepest_86 ?_
              refine ga_top _ (gx_gre (f := (gx_dpt K V m k)) hfb t) ?_
              refine gs_istore [(0, _), (1, _), (2, _), (3, _), (4, _), (5, _), (6, _), (7, _)] dX10_deepest_89 (by decide) rfl rfl ?_
              refine ga_aload_n 0 dX10_deepest_91 rfl ?_
              refine ga_aload_n 0 dX10_deepest_92 rfl ?_
              refine ga_get kf_X10_19 (sh161 _) rfl dX10_deepest_93 ?_
              refine gd_V1 km_X10_215 kv_X10_winds (c_X10_winds hM kw as165 hT (gx_wn_VW vw t)) (sh161 _) rfl rfl (gt_rc0 (by decide)) (Nat.le_of_ble_eq_true rfl) dX10_deepest_96 (fun r_96 w_96 q_96 => ?_)
              obtain ⟨rfl, o1, hT⟩ := q_96
              have hX1 := gx_M_eq (fun b q1 q2 q3 q4 q5 q6 => o1 b q3) (fun q _ => congrFun (o1 161 (by decide)) q) hX1
              have hF : ∀ a, a < 161 → w_96 a = w a := fun a ha => (o1 a (by omega)).trans (hF a ha)
              have hM := hX1.1
              refine gs_iincN 6 1 [(0, _), (1, _), (2, _), (3, _), (4, _), (5, _), (6, _), (7, _)] dX10_deepest_99 rfl (by decide) (by decide) rfl rfl ?_
              refine ga_goto 49 dX10_deepest_102 (by decide) ?_
              refine ga_take 7 ?_
              have h9 := ih (t + 1) (by omega) _ hX1 hT hF
              first | (rw [e9] at h9 ⊢; exact h9) | (rw [e9] at h9 ⊢; rw [Nat.add_sub_cancel] at h9; exact h9)
        exact loop (N + 1) 0 (by omega) _ hX1 hT hF
      · have hno : gx_wi n9 (nI 0) (nI 100) = 0 ∨ gx_wi t9 (nI 0) (nI 1) = 0 := Or.inr c_30
        refine ga_ldc kc_X10_86 dX10_deepest_33 ?_
        exact gd_iret dX10_deepest_35 ⟨gv (by unfold aDeep; rw [if_neg c_5, if_pos hno]), hX, fun _ _ => rfl⟩
  · refine ga_ldc kc_X10_191 dX10_deepest_8 ?_
    exact gd_iret dX10_deepest_10 ⟨gv (by unfold aDeep; rw [if_pos c_5]), hX, fun _ _ => rfl⟩
/-- two states that differ in boats and hours alone -/
def gx_like (V U : gx_K) : Prop := ∀ i, i ≠ 0 → i ≠ 4 → ∀ j, U i j = V i j
theorem gx_like_up {V U : gx_K} (h : gx_like V U) {i j v : Nat} : gx_like (gx_up V i j v) (gx_up U i j v) := fun a h0 h4 b => by
  unfold gx_up
  split
  · rfl
  · exact h a h0 h4 b
theorem gx_like_act {V U : gx_K} {m : Int32} (h : gx_like V U) (p : Nat) : gx_act U m p ↔ gx_act V m p := by
  show (¬ U 2 p = 0 ∧ _) ↔ (¬ V 2 p = 0 ∧ _)
  rw [h 2 (by decide) (by decide)]
theorem gx_like_wp {K V U : gx_K} {m : Int32} (h : gx_like V U) : ∀ p, gx_like (gx_wp K V m p) (gx_wp K U m p)
  | 0 => h
  | p + 1 => by
    have ih := gx_like_wp (K := K) (m := m) h p
    by_cases q : gx_act V m p
    · obtain ⟨t, ht⟩ : ∃ t, V 2 p = t + 1 := ⟨V 2 p - 1, by have := q.1; omega⟩
      rw [gx_wp_t q ht, gx_wp_t ((gx_like_act h p).mpr q) ((h 2 (by decide) (by decide) p).trans ht), ih 1 (by decide) (by decide), ih 3 (by decide) (by decide)]
      exact gx_like_up (gx_like_up ih)
    · rw [gx_wp_f q, gx_wp_f (fun z => q ((gx_like_act h p).mp z)), ih 3 (by decide) (by decide)]
      exact gx_like_up ih
theorem gx_like_hp {V U : gx_K} {m : Int32} (h : gx_like V U) : ∀ p, gx_hp U m p = gx_hp V m p
  | 0 => rfl
  | p + 1 => by
    have ih := gx_like_hp (m := m) h p
    by_cases q : gx_act V m p
    · obtain ⟨t, ht⟩ : ∃ t, V 2 p = t + 1 := ⟨V 2 p - 1, by have := q.1; omega⟩
      rw [gx_hp_t q ht, gx_hp_t ((gx_like_act h p).mpr q) ((h 2 (by decide) (by decide) p).trans ht), ih]
    · rw [gx_hp_f q, gx_hp_f (fun z => q ((gx_like_act h p).mp z)), ih]
theorem gx_like_wt {V U : gx_K} {g : Int32} (h : gx_like V U) : ∀ t, gx_like (gx_wt V g t) (gx_wt U g t)
  | 0 => h
  | t + 1 => by
    have ih := gx_like_wt (g := g) h t
    by_cases q : (g >>> (nI t &&& 31)) &&& nI 1 = 0
    · rw [gx_wt_t q, gx_wt_t q, ih 1 (by decide) (by decide)]
      exact gx_like_up ih
    · rw [gx_wt_f q, gx_wt_f q]; exact ih
theorem gx_like_wind {K V U : gx_K} {m : Int32} (h : gx_like V U) : gx_like (gx_wind K V m) (gx_wind K U m) := by
  unfold gx_wind
  rw [gx_like_hp h]
  exact gx_like_wt (gx_like_wp h _) _
theorem gx_like_dep {K V U : gx_K} (h : gx_like V U) (k : Nat) : gx_dep K U k = gx_dep K V k := by
  unfold gx_dep gx_sea
  rw [show (fun t => gx_bears (U 1 t) (K 3 t) (K 2 t) k) = (fun t => gx_bears (V 1 t) (K 3 t) (K 2 t) k) from by funext t; rw [h 1 (by decide) (by decide)]]
theorem gx_like_sail {K V : gx_K} {b : Nat} : gx_like V (gx_sail K V b) := fun i _ h4 j => gx_sail_row h4 j
theorem gx_like_tr {V U W : gx_K} (h1 : gx_like V U) (h2 : gx_like U W) : gx_like V W := fun i h0 h4 j => (h2 i h0 h4 j).trans (h1 i h0 h4 j)
theorem gx_like_sym {V U : gx_K} (h : gx_like V U) : gx_like U V := fun i h0 h4 j => (h i h0 h4 j).symm
theorem gx_like_sb {K V : gx_K} : ∀ b, gx_like V (gx_sb K V b)
  | 0 => fun _ _ _ _ => rfl
  | b + 1 => gx_like_tr (gx_like_sb b) gx_like_sail
theorem gx_sail_4 {K V : gx_K} {b j : Nat} (h : j ≠ b) : gx_sail K V b 4 j = V 4 j := by
  unfold gx_sail
  split
  · rfl
  · split
    · exact gx_up_col h
    · rfl
theorem gx_sb_ge {K V : gx_K} {j : Nat} : ∀ b, b ≤ j → gx_sb K V b 4 j = V 4 j
  | 0, _ => rfl
  | b + 1, h => by
    show gx_sail K (gx_sb K V b) b 4 j = _
    rw [gx_sail_4 (by omega), gx_sb_ge b (by omega)]
theorem gx_sail_like {K V U : gx_K} {b : Nat} (h : gx_like V U) (e : U 4 b = V 4 b) : gx_sail K U b 4 b = gx_sail K V b 4 b := by
  have hn : gx_next K U b = gx_next K V b := by unfold gx_next; rw [e]
  unfold gx_sail
  rw [e, hn, gx_like_dep h, gx_like_dep h]
  split
  · exact e
  · split
    · rw [gx_up_eq, gx_up_eq]
    · exact e
theorem gx_sb_at {K V : gx_K} {j : Nat} : ∀ b, j < b → gx_sb K V b 4 j = gx_sail K V j 4 j
  | 0, h => by omega
  | b + 1, h => by
    show gx_sail K (gx_sb K V b) b 4 j = _
    by_cases e : j = b
    · subst e
      exact gx_sail_like (gx_like_sb j) (gx_sb_ge j (Nat.le_refl _))
    · rw [gx_sail_4 e, gx_sb_at b (by omega)]
theorem gx_cm_hn {K V : gx_K} {m : Int32} {b : Nat} (hb : b < K 0 3) : ∀ i, gx_like (gx_cm K V m b i) (gx_hn K V m i) ∧ gx_hn K V m i 4 b = gx_cm K V m b i 4 b
  | 0 => ⟨fun _ _ _ _ => rfl, rfl⟩
  | i + 1 => by
    have ih := gx_cm_hn (V := V) (m := m) hb i
    have hw := gx_like_wind (K := K) (m := m) ih.1
    have hw4 : gx_wind K (gx_hn K V m i) m 4 b = gx_wind K (gx_cm K V m b i) m 4 b := by
      rw [gx_wind_row (by decide) (by decide), gx_wind_row (by decide) (by decide)]; exact ih.2
    constructor
    · show gx_like (gx_sail K (gx_wind K (gx_cm K V m b i) m) b) (gx_up (gx_sb K (gx_wind K (gx_hn K V m i) m) (K 0 3)) 0 0 (gx_hn K V m i 0 0 + 1))
      refine gx_like_tr (gx_like_sym gx_like_sail) (gx_like_tr hw (gx_like_tr (gx_like_sb _) (fun a h0 _ c => gx_up_row h0)))
    · show gx_up (gx_sb K (gx_wind K (gx_hn K V m i) m) (K 0 3)) 0 0 (gx_hn K V m i 0 0 + 1) 4 b = gx_sail K (gx_wind K (gx_cm K V m b i) m) b 4 b
      rw [gx_up_row (by decide), gx_sb_at _ hb]
      exact gx_sail_like hw hw4
set_option maxRecDepth 100000 in
set_option maxHeartbeats 4000000 in
theorem c_X10_comes {l : Launch} {G : gt_G} {n : Nat} {w : gt_W} {K V : gx_K} {m : Int32} {hs : Nat → gx_K × Int32} {cnt : Nat} {im : Nat → Nat × (gx_K × Int32) × Nat} {sd : Nat} {x : Nat → Nat} {L fp : Nat} {Q : gx_K} (hX : gx_M w K V m hs cnt im sd x L fp Q) (hW : gx_WF K V m hs cnt im sd x L fp Q) (a9 : Int32) : gt_D l G yX10_comes cX10_comes 3 (some .int) 6 n [.ref 161, .int a9] w (fun r w' => r = some (.int (aComes K V m a9)) ∧ gx_M w' K V m hs cnt im sd x L fp Q ∧ ∀ a, a < 161 → w' a = w a) := by
  obtain ⟨hM, hV, hpast, him, hsd, htx, hfp, hQ⟩ := id hX
  obtain ⟨kw, vw, vd, hhr, hcnt, hhs, him2, hsd2, hxL, hfp2, qw⟩ := id hW
  refine gt_D_of (own := RX10) (nm := "comes") rfl rfl (by decide +kernel) (Nat.le_of_ble_eq_true rfl) ?_
  show gt_A _ _ _ _ _ _ _ _ _ _ _ [(0, .ref 161), (1, .int a9)] _ _
  refine ga_aload_n 0 dX10_comes_0 rfl ?_
  refine ga_iload_n 1 dX10_comes_1 rfl ?_
  refine ga_V1 km_X10_205 kv_X10_isBoat (c_X10_isBoat hM kw a9) (sh161 _) rfl rfl (gt_rc0 (by decide)) (Nat.le_of_ble_eq_true rfl) dX10_comes_2 ?_
  refine ga_if_ne 11 dX10_comes_5 (by decide) (fun c_5 => ?_) (fun c_5 => ?_)
  · obtain ⟨k, hk, rfl⟩ := gx_in_of (by have := kw.1; have := kw.2.1; have := kw.2.2.1; have := kw.2.2.2.1; omega) c_5
    have ek : (nI k).toNatClampNeg = k := nI_clamp (by have := kw.1; have := kw.2.1; have := kw.2.2.1; have := kw.2.2.2.1; omega)
    refine ga_aload_n 0 dX10_comes_11 rfl ?_
    refine gd_V0 km_X10_257 kv_X10_layAside c_X10_layAside (sh161 _) rfl rfl (gt_rc0 (by decide)) (Nat.le_of_ble_eq_true rfl) dX10_comes_12 (fun r_12 w_12 q_12 => ?_)
    obtain ⟨rfl, oL, hcp⟩ := q_12
    have hT := hcp K V m kw hV
    have hX1 := gx_M_eq (fun b q1 q2 q3 q4 q5 q6 => oL b q3) (fun q _ => congrFun (oL 161 (by decide)) q) hX
    have hF : ∀ a, a < 161 → w_12 a = w a := fun a ha => oL a (by omega)
    have hM := hX1.1
    have hV := hX1.2.1
    refine ga_iconst (nI 0) dX10_comes_15 (by decide) ?_
    refine gs_istore_n [(0, _), (1, _), (2, _)] dX10_comes_16 (by decide) rfl rfl ?_
    have loop : ∀ j t, t + j = 201 → gx_first (fun i => gx_cm K V m k i 4 k = K 7 k) 0 201 = gx_first (fun i => gx_cm K V m k i 4 k = K 7 k) t j → ∀ w1 : gt_W, gx_M w1 K V m hs cnt im sd x L fp Q → gx_ms (w1 165) K (gx_hn K V m t) m → (∀ a, a < 161 → w1 a = w a) → gt_A l G RX10 "comes" cX10_comes 3 (some .int) (gt_rm 6 0 0) (gt_ZD G n (fun r w' => r = some (.int (aComes K V m (nI k))) ∧ gx_M w' K V m hs cnt im sd x L fp Q ∧ ∀ a, a < 161 → w' a = w a)) (n, 0, 0) 17 [(0, .ref 161), (1, .int (nI k)), (2, .int (nI t))] [] (gt_enc w1) := by
      intro j
      induction j with
      | zero =>
        intro t ht hA w1 hX1 hT hF
        have et : t = 201 := by omega
        have hM := hX1.1
        refine ga_iload_n 2 dX10_comes_17 rfl ?_
        refine ga_sipush (nI 201) dX10_comes_18 (by decide) ?_
        refine ga_icmp_ge 61 dX10_comes_21 (by decide) (fun c_21 => ?_) (fun c_21 => absurd (nI_le (by omega) (by omega)) c_21)
        refine ga_iconst ((-1)) dX10_comes_61 (by decide) ?_
        exact gd_iret dX10_comes_62 ⟨gv (by unfold aComes; rw [if_neg c_5, ek, hA]; rfl), hX1, hF⟩
      | succ j ih =>
        intro t ht hA w1 hX1 hT hF
        have hM := hX1.1
        have hcw := gx_hn_VW (m := m) kw vw t
        have hce := (gx_cm_hn (V := V) (m := m) hk t).2
        refine ga_iload_n 2 dX10_comes_17 rfl ?_
        refine ga_sipush (nI 201) dX10_comes_18 (by decide) ?_
        refine ga_icmp_ge 61 dX10_comes_21 (by decide) (fun c_21 => absurd c_21 (nI_ge (by omega) (by omega))) (fun c_21 => ?_)
        refine ga_aload_n 0 dX10_comes_24 rfl ?_
        refine ga_get kf_X10_19 (sh161 _) rfl dX10_comes_25 ?_
        refine ga_bipush (nI 19) dX10_comes_28 (by decide) ?_
        refine ga_iload_n 1 dX10_comes_30 rfl ?_
        refine ga_iadd dX10_comes_31 ?_
        refine gm_S4 sh165 hT kw hk dX10_comes_32 ?_
        refine ga_aload_n 0 dX10_comes_33 rfl ?_
        refine ga_get kf_X10_7 (sh161 _) rfl dX10_comes_34 ?_
        refine ga_bipush (nI 40) dX10_comes_37 (by decide) ?_
        refine ga_iload_n 1 dX10_comes_39 rfl ?_
        refine ga_iadd dX10_comes_40 ?_
        refine gm_C7 hM kw hk dX10_comes_41 ?_
        refine ga_icmp_ne 47 dX10_comes_42 (by decide) (fun c_42 => ?_) (fun c_42 => ?_)
        · have hz : ¬ gx_cm K V m k t 4 k = K 7 k := fun q => c_42 (by rw [hce, q])
          refine ga_aload_n 0 dX10_comes_47 rfl ?_
          refine ga_aload_n 0 dX10_comes_48 rfl ?_
          refine ga_get kf_X10_19 (sh161 _) rfl dX10_comes_49 ?_
          refine gd_V1 km_X10_228 kv_X10_hourGoes (c_X10_hourGoes hM kw as165 hT hcw) (sh161 _) rfl rfl (gt_rc0 (by decide)) (Nat.le_of_ble_eq_true rfl) dX10_comes_52 (fun r_52 w_52 q_52 => ?_)
          obtain ⟨rfl, o1, hT⟩ := q_52
          have hX1 := gx_M_eq (fun b q1 q2 q3 q4 q5 q6 => o1 b q3) (fun q _ => congrFun (o1 161 (by decide)) q) hX1
          have hF : ∀ a, a < 161 → w_52 a = w a := fun a ha => (o1 a (by omega)).trans (hF a ha)
          refine gs_iincN 2 1 [(0, _), (1, _), (2, _)] dX10_comes_55 rfl (by decide) (by decide) rfl rfl ?_
          refine ga_goto 17 dX10_comes_58 (by decide) ?_
          exact ih (t + 1) (by omega) (hA.trans (gx_first_f (P := (fun i => gx_cm K V m k i 4 k = K 7 k)) hz)) _ hX1 hT hF
        · have hz : gx_cm K V m k t 4 k = K 7 k := by rw [← hce]; exact (nI_eq (by have := hcw.2.2.2.2 k hk; have := kw.1; omega) (by have := kw.2.2.2.2.2.2.2.2.2.2.1 k hk; have := kw.1; omega)).mp c_42
          refine ga_iload_n 2 dX10_comes_45 rfl ?_
          exact gd_iret dX10_comes_46 ⟨gv (by unfold aComes; rw [if_neg c_5, ek, hA]; exact (gx_first_t (P := (fun i => gx_cm K V m k i 4 k = K 7 k)) hz).symm), hX1, hF⟩
    exact loop 201 0 (by omega) rfl _ hX1 hT hF
  · refine ga_ldc kc_X10_191 dX10_comes_8 ?_
    exact gd_iret dX10_comes_10 ⟨gv (by unfold aComes; rw [if_pos c_5]), hX, fun _ _ => rfl⟩
/-- the least so far, FAR without one -/
def gx_lvf (f : Nat → Nat) (v : Nat) : Int32 := if v = 0 then nI 100000000 else nI (f (v - 1))
theorem gx_lvf_p {f : Nat → Nat} {v : Nat} (h : ¬ v = 0) : gx_lvf f v = nI (f (v - 1)) := if_neg h
theorem gx_les {f : Nat → Nat} (hf : ∀ i, f i ≤ 1000) (t : Nat) : (if nI (f t) < gx_lvf f (gx_argm f t) then nI (f t) else gx_lvf f (gx_argm f t)) = gx_lvf f (gx_argm f (t + 1)) ∧ (nI (f t) < gx_lvf f (gx_argm f t) → gx_argm f (t + 1) = t + 1) ∧ (¬ nI (f t) < gx_lvf f (gx_argm f t) → gx_argm f (t + 1) = gx_argm f t) := by
  have l1 := hf t
  have l2 := hf (gx_argm f t - 1)
  by_cases h0 : gx_argm f t = 0
  · have e := gx_argm_t (f := f) (k := t) (Or.inl h0)
    have hl : nI (f t) < gx_lvf f (gx_argm f t) := by
      rw [h0]
      exact nI_lt (show f t < 100000000 by omega) (by decide)
    rw [if_pos hl, e]
    exact ⟨(gx_lvf_p (f := f) (v := t + 1) (Nat.succ_ne_zero t)).symm, fun _ => rfl, fun q => absurd hl q⟩
  · rw [gx_lvf_p h0]
    by_cases h1 : f t < f (gx_argm f t - 1)
    · have e := gx_argm_t (f := f) (k := t) (Or.inr h1)
      rw [if_pos (nI_lt h1 (by omega)), e]
      exact ⟨(gx_lvf_p (f := f) (v := t + 1) (Nat.succ_ne_zero t)).symm, fun _ => rfl, fun q => absurd (nI_lt h1 (by omega)) q⟩
    · have e := gx_argm_f (f := f) (k := t) (fun q => q.elim h0 h1)
      have hn : ¬ nI (f t) < nI (f (gx_argm f t - 1)) := nI_nlt (by omega) (by omega)
      rw [if_neg hn, e]
      exact ⟨(gx_lvf_p (f := f) h0).symm, fun q => absurd q hn, fun _ => rfl⟩
set_option maxRecDepth 100000 in
set_option maxHeartbeats 4000000 in
theorem c_X10_leave {l : Launch} {G : gt_G} {n : Nat} {w : gt_W} {K V : gx_K} {m : Int32} {hs : Nat → gx_K × Int32} {cnt : Nat} {im : Nat → Nat × (gx_K × Int32) × Nat} {sd : Nat} {x : Nat → Nat} {L fp : Nat} {Q : gx_K} (hX : gx_M w K V m hs cnt im sd x L fp Q) (hW : gx_WF K V m hs cnt im sd x L fp Q) (a9 : Int32) : gt_D l G yX10_leave cX10_leave 6 (some .int) 7 n [.ref 161, .int a9] w (fun r w' => r = some (.int (aLeave K V a9)) ∧ gx_M w' K V m hs cnt im sd x L fp Q ∧ ∀ a, a < 161 → w' a = w a) := by
  obtain ⟨hM, hV, hpast, him, hsd, htx, hfp, hQ⟩ := id hX
  obtain ⟨kw, vw, vd, hhr, hcnt, hhs, him2, hsd2, hxL, hfp2, qw⟩ := id hW
  refine gt_D_of (own := RX10) (nm := "leave") rfl rfl (by decide +kernel) (Nat.le_of_ble_eq_true rfl) ?_
  show gt_A _ _ _ _ _ _ _ _ _ _ _ [(0, .ref 161), (1, .int a9)] _ _
  refine ga_iload_n 1 dX10_leave_0 rfl ?_
  refine ga_i2l dX10_leave_1 ?_
  refine ga_lconst 0 dX10_leave_2 (by decide) ?_
  refine ga_lconst 1 dX10_leave_3 (by decide) ?_
  refine ga_S3 km_X10_64 kv_X10_in (c_X10_in (x := a9) (a := nI 0) (b := nI 1) rfl (by decide) (by decide)) (gt_rc0 (by decide)) (Nat.le_of_ble_eq_true rfl) dX10_leave_4 ?_
  refine ga_if_ne 13 dX10_leave_7 (by decide) (fun c_7 => ?_) (fun c_7 => ?_)
  · refine ga_iconst ((-1)) dX10_leave_13 (by decide) ?_
    refine gs_istore_n [(0, _), (1, _), (2, _)] dX10_leave_14 (by decide) rfl rfl ?_
    refine ga_ldc_w kc_X10_269 dX10_leave_15 ?_
    refine gs_istore_n [(0, _), (1, _), (2, _), (3, _)] dX10_leave_18 (by decide) rfl rfl ?_
    refine ga_iconst (nI 0) dX10_leave_19 (by decide) ?_
    refine gs_istore [(0, _), (1, _), (2, _), (3, _), (4, _)] dX10_leave_20 (by decide) rfl rfl ?_
    have loop : ∀ j t, t + j = K 0 1 → ∀ w1 : gt_W, gx_M w1 K V m hs cnt im sd x L fp Q → (∀ a, a < 161 → w1 a = w a) → gt_A l G RX10 "leave" cX10_leave 6 (some .int) (gt_rm 7 0 0) (gt_ZD G n (fun r w' => r = some (.int (aLeave K V a9)) ∧ gx_M w' K V m hs cnt im sd x L fp Q ∧ ∀ a, a < 161 → w' a = w a)) (n, 0, 0) 22 [(0, .ref 161), (1, .int a9), (2, .int (gx_seat (gx_argm (gx_lv K V) t))), (3, .int (gx_lvf (gx_lv K V) (gx_argm (gx_lv K V) t))), (4, .int (nI t))] [] (gt_enc w1) := by
      intro j
      induction j with
      | zero =>
        intro t ht w1 hX1 hF
        have et : t = K 0 1 := by omega
        have hM := hX1.1
        have hal := gx_argm_le (gx_lv K V) t
        refine ga_iload 4 dX10_leave_22 rfl ?_
        refine ga_aload_n 0 dX10_leave_24 rfl ?_
        refine ga_get kf_X10_7 (sh161 _) rfl dX10_leave_25 ?_
        refine ga_iconst (nI 1) dX10_leave_28 (by decide) ?_
        refine gm_c1 hM dX10_leave_29 ?_
        refine ga_icmp_ge 83 dX10_leave_30 (by decide) (fun c_30 => ?_) (fun c_30 => absurd (nI_le (by omega) (by have := kw.2.1; omega)) c_30)
        refine ga_iload_n 2 dX10_leave_83 rfl ?_
        refine ga_iconst ((-1)) dX10_leave_84 (by decide) ?_
        refine ga_icmp_eq 92 dX10_leave_85 (by decide) (fun c_85 => ?_) (fun c_85 => ?_)
        · have hz : gx_argm (gx_lv K V) t = 0 := (gx_seat_m1 (by have := kw.2.1; omega)).mp c_85
          refine ga_iload_n 2 dX10_leave_92 rfl ?_
          refine ga_goto 97 dX10_leave_93 (by decide) ?_
          exact gd_iret dX10_leave_97 ⟨gv (by unfold aLeave; rw [if_neg c_7, ← et]; first | exact (if_pos c_89).symm | (rw [if_neg c_89, gx_lva_p hz]; exact gx_lvf_p hz) | (rw [hz]; split <;> rfl)), hX1, hF⟩
        · have hz : ¬ gx_argm (gx_lv K V) t = 0 := fun q => c_85 (by rw [q]; rfl)
          refine ga_iload_n 1 dX10_leave_88 rfl ?_
          refine ga_if_ne 96 dX10_leave_89 (by decide) (fun c_89 => ?_) (fun c_89 => ?_)
          · refine ga_iload_n 3 dX10_leave_96 rfl ?_
            exact gd_iret dX10_leave_97 ⟨gv (by unfold aLeave; rw [if_neg c_7, ← et]; first | exact (if_pos c_89).symm | (rw [if_neg c_89, gx_lva_p hz]; exact gx_lvf_p hz) | (rw [hz]; split <;> rfl)), hX1, hF⟩
          · refine ga_iload_n 2 dX10_leave_92 rfl ?_
            refine ga_goto 97 dX10_leave_93 (by decide) ?_
            exact gd_iret dX10_leave_97 ⟨gv (by unfold aLeave; rw [if_neg c_7, ← et]; first | exact (if_pos c_89).symm | (rw [if_neg c_89, gx_lva_p hz]; exact gx_lvf_p hz) | (rw [hz]; split <;> rfl)), hX1, hF⟩
      | succ j ih =>
        intro t ht w1 hX1 hF
        have hM := hX1.1
        have hV := hX1.2.1
        have htT : t < K 0 1 := by omega
        have hle := gx_les (f := gx_lv K V) (fun i => by have := gx_lv_le kw vw i; omega) t
        refine ga_iload 4 dX10_leave_22 rfl ?_
        refine ga_aload_n 0 dX10_leave_24 rfl ?_
        refine ga_get kf_X10_7 (sh161 _) rfl dX10_leave_25 ?_
        refine ga_iconst (nI 1) dX10_leave_28 (by decide) ?_
        refine gm_c1 hM dX10_leave_29 ?_
        refine ga_icmp_ge 83 dX10_leave_30 (by decide) (fun c_30 => absurd c_30 (nI_ge (by omega) (by have := kw.2.1; omega))) (fun c_30 => ?_)
        refine ga_aload_n 0 dX10_leave_33 rfl ?_
        refine gd_V0 km_X10_257 kv_X10_layAside c_X10_layAside (sh161 _) rfl rfl (gt_rc0 (by decide)) (Nat.le_of_ble_eq_true rfl) dX10_leave_34 (fun r_34 w_34 q_34 => ?_)
        obtain ⟨rfl, oL, hcp⟩ := q_34
        have hT := hcp K V m kw hV
        have hX1 := gx_M_eq (fun b q1 q2 q3 q4 q5 q6 => oL b q3) (fun q _ => congrFun (oL 161 (by decide)) q) hX1
        have hF : ∀ a, a < 161 → w_34 a = w a := fun a ha => (oL a (by omega)).trans (hF a ha)
        refine ga_aload_n 0 dX10_leave_37 rfl ?_
        refine ga_get kf_X10_19 (sh161 _) rfl dX10_leave_38 ?_
        refine ga_iconst (nI 0) dX10_leave_41 (by decide) ?_
        refine ga_iload 4 dX10_leave_42 rfl ?_
        refine ga_iadd dX10_leave_44 ?_
        refine ga_iconst (nI 0) dX10_leave_45 (by decide) ?_
        refine gmw_S1 sh165 hT kw htT dX10_leave_46 (fun w_46 o_46 hT => ?_)
        have hX1 := gx_M_eq (fun b q1 q2 q3 q4 q5 q6 => o_46 b q3) (fun q _ => congrFun (o_46 161 (by decide)) q) hX1
        have hF : ∀ a, a < 161 → w_46 a = w a := fun a ha => (o_46 a (by omega)).trans (hF a ha)
        have hM := hX1.1
        refine ga_aload_n 0 dX10_leave_47 rfl ?_
        refine ga_aload_n 0 dX10_leave_48 rfl ?_
        refine ga_get kf_X10_19 (sh161 _) rfl dX10_leave_49 ?_
        refine ga_V1 km_X10_169 kv_X10_slopeOn (c_X10_slopeOn hM kw as165 hT (gx_up1_VW vw (Nat.zero_le _))) (sh161 _) rfl rfl (gt_rc0 (by decide)) (Nat.le_of_ble_eq_true rfl) dX10_leave_52 ?_
        refine gs_istore [(0, _), (1, _), (2, _), (3, _), (4, _), (5, _)] dX10_leave_55 (by decide) rfl rfl ?_
        refine ga_iload 5 dX10_leave_57 rfl ?_
        refine ga_iload_n 3 dX10_leave_59 rfl ?_
        refine ga_icmp_ge 68 dX10_leave_60 (by decide) (fun c_60 => ?_) (fun c_60 => ?_)
        · have e9 := hle.2.2 (Int32.not_lt.mpr c_60)
          refine ga_iload_n 2 dX10_leave_68 rfl ?_
          refine gs_istore_n [(0, _), (1, _), (2, _), (3, _), (4, _), (5, _)] dX10_leave_69 (by decide) rfl rfl ?_
          refine ga_iload 5 dX10_leave_70 rfl ?_
          refine ga_iload_n 3 dX10_leave_72 rfl ?_
          refine ga_S2 km_X10_212 kv_X10_lesser c_X10_lesser (gt_rc0 (by decide)) (Nat.le_of_ble_eq_true rfl) dX10_leave_73 ?_
          refine ga_top _ hle.1 ?_
          refine gs_istore_n [(0, _), (1, _), (2, _), (3, _), (4, _), (5, _)] dX10_leave_76 (by decide) rfl rfl ?_
          refine gs_iincN 4 1 [(0, _), (1, _), (2, _), (3, _), (4, _), (5, _)] dX10_leave_77 rfl (by decide) (by decide) rfl rfl ?_
          refine ga_goto 22 dX10_leave_80 (by decide) ?_
          refine ga_take 5 ?_
          have h9 := ih (t + 1) (by omega) _ hX1 hF
          first | (rw [e9, gx_seat_s] at h9; rw [e9]; exact h9) | (rw [e9] at h9; rw [e9]; exact h9)
        · have e9 := hle.2.1 (Int32.not_le.mp c_60)
          refine ga_iload 4 dX10_leave_63 rfl ?_
          refine ga_goto 69 dX10_leave_65 (by decide) ?_
          refine gs_istore_n [(0, _), (1, _), (2, _), (3, _), (4, _), (5, _)] dX10_leave_69 (by decide) rfl rfl ?_
          refine ga_iload 5 dX10_leave_70 rfl ?_
          refine ga_iload_n 3 dX10_leave_72 rfl ?_
          refine ga_S2 km_X10_212 kv_X10_lesser c_X10_lesser (gt_rc0 (by decide)) (Nat.le_of_ble_eq_true rfl) dX10_leave_73 ?_
          refine ga_top _ hle.1 ?_
          refine gs_istore_n [(0, _), (1, _), (2, _), (3, _), (4, _), (5, _)] dX10_leave_76 (by decide) rfl rfl ?_
          refine gs_iincN 4 1 [(0, _), (1, _), (2, _), (3, _), (4, _), (5, _)] dX10_leave_77 rfl (by decide) (by decide) rfl rfl ?_
          refine ga_goto 22 dX10_leave_80 (by decide) ?_
          refine ga_take 5 ?_
          have h9 := ih (t + 1) (by omega) _ hX1 hF
          first | (rw [e9, gx_seat_s] at h9; rw [e9]; exact h9) | (rw [e9] at h9; rw [e9]; exact h9)
    exact loop (K 0 1) 0 (by omega) _ hX (fun _ _ => rfl)
  · refine ga_ldc kc_X10_86 dX10_leave_10 ?_
    exact gd_iret dX10_leave_12 ⟨gv (by unfold aLeave; rw [if_pos c_7]), hX, fun _ _ => rfl⟩
