theorem gx_slp0 {m x : Int32} (h : gx_slpB m x = 0) : gx_slpB m x = nI 0 := h.trans nI_0.symm
theorem gx_slp1 {m x : Int32} (h : ¬ gx_slpB m x = 0) : gx_slpB m x = nI 1 := by
  unfold gx_slpB at h ⊢
  split
  · rfl
  · rename_i q; rw [if_neg q] at h; exact absurd nI_0 h
/-- 1 if lo ≤ v ≤ hi -/
def gx_wi (v lo hi : Int32) : Int32 := if lo ≤ v ∧ v ≤ hi then nI 1 else nI 0
theorem gx_wi_of {v : Int32} {a b : Nat} (ha : a < 2 ^ 31) (hb : b < 2 ^ 31) (h : ¬ gx_wi v (nI a) (nI b) = 0) : ∃ k, a ≤ k ∧ k ≤ b ∧ v = nI k := by
  unfold gx_wi at h
  by_cases q : nI a ≤ v ∧ v ≤ nI b
  · have h0 : ¬ v < 0 := fun z => absurd (Int32.lt_of_le_of_lt q.1 z) (nI_pos ha)
    obtain ⟨j, hj, rfl⟩ := nI_of h0
    exact ⟨j, (nI_leI ha hj).mp q.1, (nI_leI hj hb).mp q.2, rfl⟩
  · rw [if_neg q] at h
    exact absurd nI_0 h
set_option maxRecDepth 100000 in
set_option maxHeartbeats 4000000 in
theorem c_X9_boat {l : Launch} {G : gt_G} {n : Nat} {w : gt_W} {c : Nat} {K V : gx_K} {m : Int32} {hs : Nat → gx_K × Int32} {cnt : Nat} {im : Nat → Nat × (gx_K × Int32) × Nat} {sd : Nat} {x : Nat → Nat} {L fp : Nat} {Q : gx_K} (hX : gx_X w c K V m hs cnt im sd x L fp Q) (hW : gx_WF K V m hs cnt im sd x L fp Q) (a9 t9 : Int32) : gt_D l G yX9_boat cX9_boat 3 (some .int) 5 n [.ref 1, .int a9, .int t9] w (fun r w' => r = some (.int (aBoat K V a9 t9)) ∧ gx_X w' c K V m hs cnt im sd x L fp Q ∧ ∀ a, 161 ≤ a → w' a = w a) := by
  obtain ⟨⟨hc, h11, ⟨c2, hc2, hne2, h12⟩, hfp⟩, hK, hV, hpast, him, hsd, htx, hQ⟩ := id hX
  obtain ⟨kw, vw, vd, hhr, hcnt, hhs, him2, hsd2, hxL, hfp2, qw⟩ := id hW
  have hcur : (some (Value.ref (w 1 1).toNatClampNeg) : Option Value) = some (Value.ref c) := by rw [h11, nI_clamp (by have := gt_isC_lt hc; omega)]
  refine gt_D_of (own := RX9) (nm := "boat") rfl rfl (by decide +kernel) (Nat.le_of_ble_eq_true rfl) ?_
  show gt_A _ _ _ _ _ _ _ _ _ _ _ [(0, .ref 1), (1, .int a9), (2, .int t9)] _ _
  refine ga_aload_n 0 dX9_boat_0 rfl ?_
  refine ga_get kf_X9_19 (sh1 _) hcur dX9_boat_1 ?_
  refine ga_iload_n 1 dX9_boat_4 rfl ?_
  refine ga_V1 km_X9_220 kv_X0_hasBoat (c_X0_hasBoat hc hK.1.2.2.2 a9) (shC hc _) rfl rfl (gt_rc0 (by decide)) (Nat.le_of_ble_eq_true rfl) dX9_boat_5 ?_
  refine ga_if_ne 14 dX9_boat_8 (by decide) (fun c_8 => ?_) (fun c_8 => ?_)
  · obtain ⟨k, hk, rfl⟩ := gx_in_of (by have := kw.1; have := kw.2.1; have := kw.2.2.1; have := kw.2.2.2.1; omega) c_8
    have ek : (nI k).toNatClampNeg = k := nI_clamp (by have := kw.1; have := kw.2.1; have := kw.2.2.1; have := kw.2.2.2.1; omega)
    refine ga_iload_n 2 dX9_boat_14 rfl ?_
    rcases gx_sw t9 3 with sw_15 | ⟨v_15, hv_15, sw_15⟩
    · refine ga_tableOut 84 dX9_boat_15 (by simpa using sw_15) (by decide) ?_
      refine ga_ldc kc_X9_86 dX9_boat_84 ?_
      exact gd_iret dX9_boat_86 ⟨gv (by unfold aBoat; rw [if_neg c_8, if_neg (gx_out sw_15 (by decide) (by decide)), if_neg (gx_out sw_15 (by decide) (by decide)), if_neg (gx_out sw_15 (by decide) (by decide)), if_neg (gx_out sw_15 (by decide) (by decide))]), hX, fun _ _ => rfl⟩
    rcases (show v_15 = 0 ∨ v_15 = 1 ∨ v_15 = 2 ∨ v_15 = 3 by omega) with rfl | rfl | rfl | rfl
    · refine ga_top (nI 0) (by rw [sw_15]) ?_
      refine ga_tableIn 44 dX9_boat_15 (by decide) (by decide) rfl (by decide) ?_
      refine ga_aload_n 0 dX9_boat_44 rfl ?_
      refine ga_get kf_X9_19 (sh1 _) hcur dX9_boat_45 ?_
      refine ga_get kf_X9_223 (shC hc _) rfl dX9_boat_48 ?_
      refine ga_iload_n 1 dX9_boat_51 rfl ?_
      refine gl_C5 hc hK kw hk dX9_boat_52 ?_
      exact gd_iret dX9_boat_53 ⟨gv (by rw [sw_15]; unfold aBoat; rw [if_neg c_8, if_pos rfl, ek]), hX, fun _ _ => rfl⟩
    · refine ga_top (nI 1) (by rw [sw_15]) ?_
      refine ga_tableIn 54 dX9_boat_15 (by decide) (by decide) rfl (by decide) ?_
      refine ga_aload_n 0 dX9_boat_54 rfl ?_
      refine ga_get kf_X9_29 (sh1 _) rfl dX9_boat_55 ?_
      refine ga_get kf_X9_226 (shS isS20 _) rfl dX9_boat_58 ?_
      refine ga_iload_n 1 dX9_boat_61 rfl ?_
      refine gl_S4 isS20 hV kw hk dX9_boat_62 ?_
      exact gd_iret dX9_boat_63 ⟨gv (by rw [sw_15]; unfold aBoat; rw [if_neg c_8, if_neg (by decide), if_pos rfl, ek]), hX, fun _ _ => rfl⟩
    · refine ga_top (nI 2) (by rw [sw_15]) ?_
      refine ga_tableIn 64 dX9_boat_15 (by decide) (by decide) rfl (by decide) ?_
      refine ga_aload_n 0 dX9_boat_64 rfl ?_
      refine ga_get kf_X9_19 (sh1 _) hcur dX9_boat_65 ?_
      refine ga_get kf_X9_229 (shC hc _) rfl dX9_boat_68 ?_
      refine ga_iload_n 1 dX9_boat_71 rfl ?_
      refine gl_C6 hc hK kw hk dX9_boat_72 ?_
      exact gd_iret dX9_boat_73 ⟨gv (by rw [sw_15]; unfold aBoat; rw [if_neg c_8, if_neg (by decide), if_neg (by decide), if_pos rfl, ek]), hX, fun _ _ => rfl⟩
    · refine ga_top (nI 3) (by rw [sw_15]) ?_
      refine ga_tableIn 74 dX9_boat_15 (by decide) (by decide) rfl (by decide) ?_
      refine ga_aload_n 0 dX9_boat_74 rfl ?_
      refine ga_get kf_X9_19 (sh1 _) hcur dX9_boat_75 ?_
      refine ga_get kf_X9_232 (shC hc _) rfl dX9_boat_78 ?_
      refine ga_iload_n 1 dX9_boat_81 rfl ?_
      refine gl_C7 hc hK kw hk dX9_boat_82 ?_
      exact gd_iret dX9_boat_83 ⟨gv (by rw [sw_15]; unfold aBoat; rw [if_neg c_8, if_neg (by decide), if_neg (by decide), if_neg (by decide), if_pos rfl, ek]), hX, fun _ _ => rfl⟩
  · refine ga_ldc kc_X9_175 dX9_boat_11 ?_
    exact gd_iret dX9_boat_13 ⟨gv (by unfold aBoat; rw [if_pos c_8]), hX, fun _ _ => rfl⟩
set_option maxRecDepth 100000 in
set_option maxHeartbeats 4000000 in
theorem c_X9_player {l : Launch} {G : gt_G} {n : Nat} {w : gt_W} {c : Nat} {K V : gx_K} {m : Int32} {hs : Nat → gx_K × Int32} {cnt : Nat} {im : Nat → Nat × (gx_K × Int32) × Nat} {sd : Nat} {x : Nat → Nat} {L fp : Nat} {Q : gx_K} (hX : gx_X w c K V m hs cnt im sd x L fp Q) (hW : gx_WF K V m hs cnt im sd x L fp Q) (a9 t9 : Int32) : gt_D l G yX9_player cX9_player 3 (some .int) 5 n [.ref 1, .int a9, .int t9] w (fun r w' => r = some (.int (aPlayer K V m a9 t9)) ∧ gx_X w' c K V m hs cnt im sd x L fp Q ∧ ∀ a, 161 ≤ a → w' a = w a) := by
  obtain ⟨⟨hc, h11, ⟨c2, hc2, hne2, h12⟩, hfp⟩, hK, hV, hpast, him, hsd, htx, hQ⟩ := id hX
  obtain ⟨kw, vw, vd, hhr, hcnt, hhs, him2, hsd2, hxL, hfp2, qw⟩ := id hW
  have hcur : (some (Value.ref (w 1 1).toNatClampNeg) : Option Value) = some (Value.ref c) := by rw [h11, nI_clamp (by have := gt_isC_lt hc; omega)]
  refine gt_D_of (own := RX9) (nm := "player") rfl rfl (by decide +kernel) (Nat.le_of_ble_eq_true rfl) ?_
  show gt_A _ _ _ _ _ _ _ _ _ _ _ [(0, .ref 1), (1, .int a9), (2, .int t9)] _ _
  refine ga_aload_n 0 dX9_player_0 rfl ?_
  refine ga_get kf_X9_19 (sh1 _) hcur dX9_player_1 ?_
  refine ga_iload_n 1 dX9_player_4 rfl ?_
  refine ga_V1 km_X9_205 kv_X0_hasPlayer (c_X0_hasPlayer hc hK.1.2.2.1 a9) (shC hc _) rfl rfl (gt_rc0 (by decide)) (Nat.le_of_ble_eq_true rfl) dX9_player_5 ?_
  refine ga_if_ne 14 dX9_player_8 (by decide) (fun c_8 => ?_) (fun c_8 => ?_)
  · obtain ⟨k, hk, rfl⟩ := gx_in_of (by have := kw.1; have := kw.2.1; have := kw.2.2.1; have := kw.2.2.2.1; omega) c_8
    have ek : (nI k).toNatClampNeg = k := nI_clamp (by have := kw.1; have := kw.2.1; have := kw.2.2.1; have := kw.2.2.2.1; omega)
    refine ga_iload_n 2 dX9_player_14 rfl ?_
    rcases gx_sw t9 3 with sw_15 | ⟨v_15, hv_15, sw_15⟩
    · refine ga_tableOut 91 dX9_player_15 (by simpa using sw_15) (by decide) ?_
      refine ga_ldc kc_X9_86 dX9_player_91 ?_
      exact gd_iret dX9_player_93 ⟨gv (by unfold aPlayer; rw [if_neg c_8, if_neg (gx_out sw_15 (by decide) (by decide)), if_neg (gx_out sw_15 (by decide) (by decide)), if_neg (gx_out sw_15 (by decide) (by decide)), if_neg (gx_out sw_15 (by decide) (by decide))]), hX, fun _ _ => rfl⟩
    rcases (show v_15 = 0 ∨ v_15 = 1 ∨ v_15 = 2 ∨ v_15 = 3 by omega) with rfl | rfl | rfl | rfl
    · refine ga_top (nI 0) (by rw [sw_15]) ?_
      refine ga_tableIn 44 dX9_player_15 (by decide) (by decide) rfl (by decide) ?_
      refine ga_aload_n 0 dX9_player_44 rfl ?_
      refine ga_get kf_X9_19 (sh1 _) hcur dX9_player_45 ?_
      refine ga_get kf_X9_208 (shC hc _) rfl dX9_player_48 ?_
      refine ga_iload_n 1 dX9_player_51 rfl ?_
      refine gl_C4 hc hK kw hk dX9_player_52 ?_
      exact gd_iret dX9_player_53 ⟨gv (by rw [sw_15]; unfold aPlayer; rw [if_neg c_8, if_pos rfl, ek]), hX, fun _ _ => rfl⟩
    · refine ga_top (nI 1) (by rw [sw_15]) ?_
      refine ga_tableIn 54 dX9_player_15 (by decide) (by decide) rfl (by decide) ?_
      refine ga_aload_n 0 dX9_player_54 rfl ?_
      refine ga_get kf_X9_29 (sh1 _) rfl dX9_player_55 ?_
      refine ga_get kf_X9_211 (shS isS20 _) rfl dX9_player_58 ?_
      refine ga_iload_n 1 dX9_player_61 rfl ?_
      refine gl_S3 isS20 hV kw hk dX9_player_62 ?_
      exact gd_iret dX9_player_63 ⟨gv (by rw [sw_15]; unfold aPlayer; rw [if_neg c_8, if_neg (by decide), if_pos rfl, ek]), hX, fun _ _ => rfl⟩
    · refine ga_top (nI 2) (by rw [sw_15]) ?_
      refine ga_tableIn 64 dX9_player_15 (by decide) (by decide) rfl (by decide) ?_
      refine ga_aload_n 0 dX9_player_64 rfl ?_
      refine ga_get kf_X9_29 (sh1 _) rfl dX9_player_65 ?_
      refine ga_get kf_X9_214 (shS isS20 _) rfl dX9_player_68 ?_
      refine ga_iload_n 1 dX9_player_71 rfl ?_
      refine gl_S2 isS20 hV kw hk dX9_player_72 ?_
      exact gd_iret dX9_player_73 ⟨gv (by rw [sw_15]; unfold aPlayer; rw [if_neg c_8, if_neg (by decide), if_neg (by decide), if_pos rfl, ek]), hX, fun _ _ => rfl⟩
    · refine ga_top (nI 3) (by rw [sw_15]) ?_
      refine ga_tableIn 74 dX9_player_15 (by decide) (by decide) rfl (by decide) ?_
      refine ga_aload_n 0 dX9_player_74 rfl ?_
      refine ga_get kf_X9_29 (sh1 _) rfl dX9_player_75 ?_
      refine ga_iload_n 1 dX9_player_78 rfl ?_
      refine ga_V1 km_X9_217 kv_X8_sleeps (c_X8_sleeps isS20 hV.2.1 (nI k)) (shS isS20 _) rfl rfl (gt_rc0 (by decide)) (Nat.le_of_ble_eq_true rfl) dX9_player_79 ?_
      refine ga_if_eq 89 dX9_player_82 (by decide) (fun c_82 => ?_) (fun c_82 => ?_)
      · refine ga_iconst (nI 0) dX9_player_89 (by decide) ?_
        exact gd_iret dX9_player_90 ⟨gv (by rw [sw_15]; unfold aPlayer; rw [if_neg c_8, if_neg (by decide), if_neg (by decide), if_neg (by decide), if_pos rfl]; first | exact (gx_slp0 c_82).symm | exact (gx_slp1 c_82).symm), hX, fun _ _ => rfl⟩
      · refine ga_iconst (nI 1) dX9_player_85 (by decide) ?_
        refine ga_goto 90 dX9_player_86 (by decide) ?_
        exact gd_iret dX9_player_90 ⟨gv (by rw [sw_15]; unfold aPlayer; rw [if_neg c_8, if_neg (by decide), if_neg (by decide), if_neg (by decide), if_pos rfl]; first | exact (gx_slp0 c_82).symm | exact (gx_slp1 c_82).symm), hX, fun _ _ => rfl⟩
  · refine ga_ldc kc_X9_175 dX9_player_11 ?_
    exact gd_iret dX9_player_13 ⟨gv (by unfold aPlayer; rw [if_pos c_8]), hX, fun _ _ => rfl⟩
/-- all of a state -/
abbrev gx_Z : Type := gx_K × (gx_K × Int32) × (Nat → gx_K × Int32) × Nat × (Nat → Nat × (gx_K × Int32) × Nat) × Nat × (Nat → Nat) × Nat × Nat × gx_K
def gx_XZ (w : gt_W) (c : Nat) (S : gx_Z) : Prop := gx_X w c S.1 S.2.1.1 S.2.1.2 S.2.2.1 S.2.2.2.1 S.2.2.2.2.1 S.2.2.2.2.2.1 S.2.2.2.2.2.2.1 S.2.2.2.2.2.2.2.1 S.2.2.2.2.2.2.2.2.1 S.2.2.2.2.2.2.2.2.2
/-- the past with one more state -/
def gx_ph (hs : Nat → gx_K × Int32) (cnt : Nat) (v : gx_K × Int32) : Nat → gx_K × Int32 := fun k => if cnt < 16 then (if k = cnt then v else hs k) else (if k = 15 then v else hs (k + 1))
theorem gx_X_rem {w w' : gt_W} {c : Nat} {K V : gx_K} {m : Int32} {hs : Nat → gx_K × Int32} {cnt : Nat} {im : Nat → Nat × (gx_K × Int32) × Nat} {sd : Nat} {x : Nat → Nat} {L fp : Nat} {Q : gx_K} {nx : Nat} (hX : gx_X w c K V m hs cnt im sd x L fp Q) (kw : gx_KW K) (hcnt : cnt ≤ 16) (hx : nx < 16) (h3 : ∀ k, k < cnt → gx_St w (32 + 5 * ((nx + 16 - cnt + k) % 16)) K (hs k).1 (hs k).2)
    (o : ∀ a, a ≠ 30 → (a < 32 + 5 * nx ∨ 32 + 5 * nx + 5 ≤ a) → w' a = w a) (e1 : w' 30 1 = nI ((nx + 1) % 16)) (e2 : w' 30 2 = nI (min 16 (cnt + 1))) (hcp : ∀ (K V : gx_K) (m : Int32), gx_KW K → gx_St w 20 K V m → gx_St w' (32 + 5 * nx) K V m) : gx_X w' c K V m (gx_ph hs cnt (V, m)) (min 16 (cnt + 1)) im sd x L fp Q := by
  obtain ⟨⟨hc, h11, h12, hfp⟩, hK, hV, -, him, hsd, htx, hQ⟩ := hX
  refine ⟨⟨hc, by rw [o 1 (by decide) (by omega)]; exact h11, by rw [o 1 (by decide) (by omega)]; exact h12, by rw [o 1 (by decide) (by omega)]; exact hfp⟩, gx_Co_eq hc (fun a ha => o a (by omega) (by omega)) hK, gx_St_eq (fun a q1 q2 => o a (by omega) (by omega)) hV, ⟨(nx + 1) % 16, Nat.mod_lt _ (by decide), e1, e2, fun k hk => ?_⟩, fun i hi => ?_, by rw [o 113 (by decide) (by omega)]; exact hsd, by rw [o 2 (by decide) (by omega), o 3 (by decide) (by omega)]; exact htx, gx_No_eq (fun a q1 q2 => o a (by omega) (by omega)) hQ⟩
  · unfold gx_ph
    by_cases hc16 : cnt < 16
    · rw [if_pos hc16]
      by_cases e : k = cnt
      · rw [if_pos e, show ((nx + 1) % 16 + 16 - min 16 (cnt + 1) + k) % 16 = nx by omega]
        exact hcp K V m kw hV
      · rw [if_neg e, show ((nx + 1) % 16 + 16 - min 16 (cnt + 1) + k) % 16 = (nx + 16 - cnt + k) % 16 by omega]
        exact gx_St_eq (fun a q1 q2 => o a (by omega) (by omega)) (h3 k (by omega))
    · rw [if_neg hc16]
      by_cases e : k = 15
      · rw [if_pos e, show ((nx + 1) % 16 + 16 - min 16 (cnt + 1) + k) % 16 = nx by omega]
        exact hcp K V m kw hV
      · rw [if_neg e, show ((nx + 1) % 16 + 16 - min 16 (cnt + 1) + k) % 16 = (nx + 16 - cnt + (k + 1)) % 16 by omega]
        exact gx_St_eq (fun a q1 q2 => o a (by omega) (by omega)) (h3 (k + 1) (by omega))
  · have h := him i hi
    exact ⟨by rw [o (149 + 6 * i) (by omega) (by omega)]; exact h.1, by rw [o (149 + 6 * i) (by omega) (by omega)]; exact h.2.1, fun q => gx_St_eq (fun a q1 q2 => o a (by omega) (by omega)) (h.2.2 q)⟩
/-- another state of now -/
theorem gx_X_now {w w' : gt_W} {c : Nat} {K V : gx_K} {m : Int32} {hs : Nat → gx_K × Int32} {cnt : Nat} {im : Nat → Nat × (gx_K × Int32) × Nat} {sd : Nat} {x : Nat → Nat} {L fp : Nat} {Q : gx_K} {V2 : gx_K} {m2 : Int32} (hX : gx_X w c K V m hs cnt im sd x L fp Q) (o : ∀ a, (a < 20 ∨ 25 ≤ a) → w' a = w a) (hV : gx_St w' 20 K V2 m2) : gx_X w' c K V2 m2 hs cnt im sd x L fp Q := by
  obtain ⟨⟨hc, h11, h12, hfp⟩, hK, -, ⟨nx, hx, h1, h2, h3⟩, him, hsd, htx, hQ⟩ := hX
  refine ⟨⟨hc, by rw [o 1 (by omega)]; exact h11, by rw [o 1 (by omega)]; exact h12, by rw [o 1 (by omega)]; exact hfp⟩, gx_Co_eq hc (fun a ha => o a (by omega)) hK, hV, ⟨nx, hx, by rw [o 30 (by omega)]; exact h1, by rw [o 30 (by omega)]; exact h2, fun k hk => gx_St_eq (fun a q1 q2 => o a (by omega)) (h3 k hk)⟩, fun i hi => ?_, by rw [o 113 (by omega)]; exact hsd, by rw [o 2 (by omega), o 3 (by omega)]; exact htx, gx_No_eq (fun a q1 q2 => o a (by omega)) hQ⟩
  have h := him i hi
  exact ⟨by rw [o (149 + 6 * i) (by omega)]; exact h.1, by rw [o (149 + 6 * i) (by omega)]; exact h.2.1, fun q => gx_St_eq (fun a q1 q2 => o a (by omega)) (h.2.2 q)⟩
/-! the calls that change the state: what they answer, the state behind them -/
def aSit (K V : gx_K) (a t : Int32) : Int32 := if gx_in a (nI (K 0 2)) = 0 ∨ gx_in t (nI (K 0 1)) = 0 then gUNK else if gx_free K V t.toNatClampNeg then gx_seat (V 2 a.toNatClampNeg) else gNOT
def nSit : gx_Z → Int32 → Int32 → gx_Z
  | (K, (V, m), hs, cnt, r), a, t => if gx_in a (nI (K 0 2)) = 0 ∨ gx_in t (nI (K 0 1)) = 0 ∨ ¬ gx_free K V t.toNatClampNeg then (K, (V, m), hs, cnt, r) else (K, (gx_up V 2 a.toNatClampNeg (t.toNatClampNeg + 1), m), gx_ph hs cnt (V, m), min 16 (cnt + 1), r)
def aRest (K V : gx_K) (a : Int32) : Int32 := if gx_in a (nI (K 0 2)) = 0 then gUNK else if V 2 a.toNatClampNeg = 0 then gNOT else gx_seat (V 2 a.toNatClampNeg)
def nRest : gx_Z → Int32 → gx_Z
  | (K, (V, m), hs, cnt, r), a => if gx_in a (nI (K 0 2)) = 0 ∨ V 2 a.toNatClampNeg = 0 then (K, (V, m), hs, cnt, r) else (K, (gx_up V 2 a.toNatClampNeg 0, m), gx_ph hs cnt (V, m), min 16 (cnt + 1), r)
def aSleep (K : gx_K) (m a : Int32) : Int32 := if gx_in a (nI (K 0 2)) = 0 then gUNK else gx_slpB m a
def nSleep : gx_Z → Int32 → Int32 → gx_Z
  | (K, (V, m), hs, cnt, r), a, b => if gx_in a (nI (K 0 2)) = 0 then (K, (V, m), hs, cnt, r) else (K, (V, gx_slep m a b), gx_ph hs cnt (V, m), min 16 (cnt + 1), r)
def aTurn (K V : gx_K) (a v : Int32) : Int32 := if gx_in a (nI (K 0 1)) = 0 then gUNK else if gx_wi v (nI 0) (nI 99) = 0 then gOUT else nI (V 1 a.toNatClampNeg)
def nTurn : gx_Z → Int32 → Int32 → gx_Z
  | (K, (V, m), hs, cnt, r), a, v => if gx_in a (nI (K 0 1)) = 0 ∨ gx_wi v (nI 0) (nI 99) = 0 then (K, (V, m), hs, cnt, r) else (K, (gx_up V 1 a.toNatClampNeg v.toNatClampNeg, m), gx_ph hs cnt (V, m), min 16 (cnt + 1), r)
def aSend (K V : gx_K) (a : Int32) : Int32 := if gx_in a (nI (K 0 3)) = 0 then gUNK else nI (V 4 a.toNatClampNeg)
def nSend : gx_Z → Int32 → gx_Z
  | (K, (V, m), hs, cnt, r), a => if gx_in a (nI (K 0 3)) = 0 then (K, (V, m), hs, cnt, r) else (K, (gx_up V 4 a.toNatClampNeg (K 6 a.toNatClampNeg), m), gx_ph hs cnt (V, m), min 16 (cnt + 1), r)
set_option maxRecDepth 100000 in
set_option maxHeartbeats 4000000 in
theorem c_X9_within {l : Launch} {G : gt_G} {n : Nat} {w : gt_W} (v a b : Int32) : gt_C l G yX9_within cX9_within 3 (some .boolean) 1 0 0 n [.int v, .int a, .int b] (gt_enc w) (some (.int (gx_wi v a b))) (gt_enc (w)) := by
  refine gt_C_of (own := RX9) (nm := "within") rfl rfl (by decide +kernel) (Nat.le_of_ble_eq_true rfl) ?_
  show gt_A _ _ _ _ _ _ _ _ _ _ _ [(0, .int v), (1, .int a), (2, .int b)] _ _
  refine ga_iload_n 0 dX9_within_0 rfl ?_
  refine ga_iload_n 1 dX9_within_1 rfl ?_
  refine ga_icmp_lt 14 dX9_within_2 (by decide) (fun c_2 => ?_) (fun c_2 => ?_)
  · refine ga_iconst (nI 0) dX9_within_14 (by decide) ?_
    exact ga_zret dX9_within_15 (by decide) (gv (by first | exact if_pos ⟨Int32.not_lt.mp c_2, Int32.not_lt.mp c_7⟩ | exact if_neg (fun q => absurd c_2 (Int32.not_lt.mpr q.1)) | exact if_neg (fun q => absurd c_7 (Int32.not_lt.mpr q.2)))) rfl
  · refine ga_iload_n 0 dX9_within_5 rfl ?_
    refine ga_iload_n 2 dX9_within_6 rfl ?_
    refine ga_icmp_gt 14 dX9_within_7 (by decide) (fun c_7 => ?_) (fun c_7 => ?_)
    · refine ga_iconst (nI 0) dX9_within_14 (by decide) ?_
      exact ga_zret dX9_within_15 (by decide) (gv (by first | exact if_pos ⟨Int32.not_lt.mp c_2, Int32.not_lt.mp c_7⟩ | exact if_neg (fun q => absurd c_2 (Int32.not_lt.mpr q.1)) | exact if_neg (fun q => absurd c_7 (Int32.not_lt.mpr q.2)))) rfl
    · refine ga_iconst (nI 1) dX9_within_10 (by decide) ?_
      refine ga_goto 15 dX9_within_11 (by decide) ?_
      exact ga_zret dX9_within_15 (by decide) (gv (by first | exact if_pos ⟨Int32.not_lt.mp c_2, Int32.not_lt.mp c_7⟩ | exact if_neg (fun q => absurd c_2 (Int32.not_lt.mpr q.1)) | exact if_neg (fun q => absurd c_7 (Int32.not_lt.mpr q.2)))) rfl
theorem nSit_k {K V : gx_K} {m : Int32} {hs : Nat → gx_K × Int32} {cnt : Nat} {im : Nat → Nat × (gx_K × Int32) × Nat} {sd : Nat} {x : Nat → Nat} {L fp : Nat} {Q : gx_K} {a t : Int32} (h : gx_in a (nI (K 0 2)) = 0 ∨ gx_in t (nI (K 0 1)) = 0 ∨ ¬ gx_free K V t.toNatClampNeg) : nSit (K, (V, m), hs, cnt, im, sd, x, L, fp, Q) a t = (K, (V, m), hs, cnt, im, sd, x, L, fp, Q) := if_pos h
theorem nSit_g {K V : gx_K} {m : Int32} {hs : Nat → gx_K × Int32} {cnt : Nat} {im : Nat → Nat × (gx_K × Int32) × Nat} {sd : Nat} {x : Nat → Nat} {L fp : Nat} {Q : gx_K} {a t : Int32} (h : ¬ (gx_in a (nI (K 0 2)) = 0 ∨ gx_in t (nI (K 0 1)) = 0 ∨ ¬ gx_free K V t.toNatClampNeg)) : nSit (K, (V, m), hs, cnt, im, sd, x, L, fp, Q) a t = (K, (gx_up V 2 a.toNatClampNeg (t.toNatClampNeg + 1), m), gx_ph hs cnt (V, m), min 16 (cnt + 1), im, sd, x, L, fp, Q) := if_neg h
theorem nRest_k {K V : gx_K} {m : Int32} {hs : Nat → gx_K × Int32} {cnt : Nat} {im : Nat → Nat × (gx_K × Int32) × Nat} {sd : Nat} {x : Nat → Nat} {L fp : Nat} {Q : gx_K} {a : Int32} (h : gx_in a (nI (K 0 2)) = 0 ∨ V 2 a.toNatClampNeg = 0) : nRest (K, (V, m), hs, cnt, im, sd, x, L, fp, Q) a = (K, (V, m), hs, cnt, im, sd, x, L, fp, Q) := if_pos h
theorem nRest_g {K V : gx_K} {m : Int32} {hs : Nat → gx_K × Int32} {cnt : Nat} {im : Nat → Nat × (gx_K × Int32) × Nat} {sd : Nat} {x : Nat → Nat} {L fp : Nat} {Q : gx_K} {a : Int32} (h : ¬ (gx_in a (nI (K 0 2)) = 0 ∨ V 2 a.toNatClampNeg = 0)) : nRest (K, (V, m), hs, cnt, im, sd, x, L, fp, Q) a = (K, (gx_up V 2 a.toNatClampNeg 0, m), gx_ph hs cnt (V, m), min 16 (cnt + 1), im, sd, x, L, fp, Q) := if_neg h
theorem nSleep_k {K V : gx_K} {m : Int32} {hs : Nat → gx_K × Int32} {cnt : Nat} {im : Nat → Nat × (gx_K × Int32) × Nat} {sd : Nat} {x : Nat → Nat} {L fp : Nat} {Q : gx_K} {a b : Int32} (h : gx_in a (nI (K 0 2)) = 0) : nSleep (K, (V, m), hs, cnt, im, sd, x, L, fp, Q) a b = (K, (V, m), hs, cnt, im, sd, x, L, fp, Q) := if_pos h
theorem nSleep_g {K V : gx_K} {m : Int32} {hs : Nat → gx_K × Int32} {cnt : Nat} {im : Nat → Nat × (gx_K × Int32) × Nat} {sd : Nat} {x : Nat → Nat} {L fp : Nat} {Q : gx_K} {a b : Int32} (h : ¬ (gx_in a (nI (K 0 2)) = 0)) : nSleep (K, (V, m), hs, cnt, im, sd, x, L, fp, Q) a b = (K, (V, gx_slep m a b), gx_ph hs cnt (V, m), min 16 (cnt + 1), im, sd, x, L, fp, Q) := if_neg h
theorem nTurn_k {K V : gx_K} {m : Int32} {hs : Nat → gx_K × Int32} {cnt : Nat} {im : Nat → Nat × (gx_K × Int32) × Nat} {sd : Nat} {x : Nat → Nat} {L fp : Nat} {Q : gx_K} {a v : Int32} (h : gx_in a (nI (K 0 1)) = 0 ∨ gx_wi v (nI 0) (nI 99) = 0) : nTurn (K, (V, m), hs, cnt, im, sd, x, L, fp, Q) a v = (K, (V, m), hs, cnt, im, sd, x, L, fp, Q) := if_pos h
theorem nTurn_g {K V : gx_K} {m : Int32} {hs : Nat → gx_K × Int32} {cnt : Nat} {im : Nat → Nat × (gx_K × Int32) × Nat} {sd : Nat} {x : Nat → Nat} {L fp : Nat} {Q : gx_K} {a v : Int32} (h : ¬ (gx_in a (nI (K 0 1)) = 0 ∨ gx_wi v (nI 0) (nI 99) = 0)) : nTurn (K, (V, m), hs, cnt, im, sd, x, L, fp, Q) a v = (K, (gx_up V 1 a.toNatClampNeg v.toNatClampNeg, m), gx_ph hs cnt (V, m), min 16 (cnt + 1), im, sd, x, L, fp, Q) := if_neg h
theorem nSend_k {K V : gx_K} {m : Int32} {hs : Nat → gx_K × Int32} {cnt : Nat} {im : Nat → Nat × (gx_K × Int32) × Nat} {sd : Nat} {x : Nat → Nat} {L fp : Nat} {Q : gx_K} {a : Int32} (h : gx_in a (nI (K 0 3)) = 0) : nSend (K, (V, m), hs, cnt, im, sd, x, L, fp, Q) a = (K, (V, m), hs, cnt, im, sd, x, L, fp, Q) := if_pos h
theorem nSend_g {K V : gx_K} {m : Int32} {hs : Nat → gx_K × Int32} {cnt : Nat} {im : Nat → Nat × (gx_K × Int32) × Nat} {sd : Nat} {x : Nat → Nat} {L fp : Nat} {Q : gx_K} {a : Int32} (h : ¬ (gx_in a (nI (K 0 3)) = 0)) : nSend (K, (V, m), hs, cnt, im, sd, x, L, fp, Q) a = (K, (gx_up V 4 a.toNatClampNeg (K 6 a.toNatClampNeg), m), gx_ph hs cnt (V, m), min 16 (cnt + 1), im, sd, x, L, fp, Q) := if_neg h
set_option maxRecDepth 100000 in
set_option maxHeartbeats 4000000 in
theorem c_X9_sit {l : Launch} {G : gt_G} {n : Nat} {w : gt_W} {c : Nat} {K V : gx_K} {m : Int32} {hs : Nat → gx_K × Int32} {cnt : Nat} {im : Nat → Nat × (gx_K × Int32) × Nat} {sd : Nat} {x : Nat → Nat} {L fp : Nat} {Q : gx_K} (hX : gx_X w c K V m hs cnt im sd x L fp Q) (hW : gx_WF K V m hs cnt im sd x L fp Q) (a9 t9 : Int32) : gt_D l G yX9_sit cX9_sit 4 (some .int) 3 n [.ref 1, .int a9, .int t9] w (fun r w' => r = some (.int (aSit K V a9 t9)) ∧ (∃ c', gx_XZ w' c' (nSit (K, (V, m), hs, cnt, im, sd, x, L, fp, Q) a9 t9)) ∧ ∀ a, 161 ≤ a → w' a = w a) := by
  obtain ⟨⟨hc, h11, ⟨c2, hc2, hne2, h12⟩, hfp⟩, hK, hV, hpast, him, hsd, htx, hQ⟩ := id hX
  obtain ⟨kw, vw, vd, hhr, hcnt, hhs, him2, hsd2, hxL, hfp2, qw⟩ := id hW
  have hcur : (some (Value.ref (w 1 1).toNatClampNeg) : Option Value) = some (Value.ref c) := by rw [h11, nI_clamp (by have := gt_isC_lt hc; omega)]
  obtain ⟨nx, hx, h1, h2, h3⟩ := hpast
  refine gt_D_of (own := RX9) (nm := "sit") rfl rfl (by decide +kernel) (Nat.le_of_ble_eq_true rfl) ?_
  show gt_A _ _ _ _ _ _ _ _ _ _ _ [(0, .ref 1), (1, .int a9), (2, .int t9)] _ _
  refine ga_aload_n 0 dX9_sit_0 rfl ?_
  refine ga_get kf_X9_19 (sh1 _) hcur dX9_sit_1 ?_
  refine ga_iload_n 1 dX9_sit_4 rfl ?_
  refine ga_V1 km_X9_205 kv_X0_hasPlayer (c_X0_hasPlayer hc hK.1.2.2.1 a9) (shC hc _) rfl rfl (gt_rc0 (by decide)) (Nat.le_of_ble_eq_true rfl) dX9_sit_5 ?_
  refine ga_if_eq 22 dX9_sit_8 (by decide) (fun c_8 => ?_) (fun c_8 => ?_)
  · have hno : gx_in a9 (nI (K 0 2)) = 0 ∨ gx_in t9 (nI (K 0 1)) = 0 := Or.inl c_8
    refine ga_ldc kc_X9_175 dX9_sit_22 ?_
    exact gd_iret dX9_sit_24 ⟨gv (by unfold aSit; rw [if_pos hno]), ⟨c, by rw [nSit_k (hno.elim Or.inl (fun q => Or.inr (Or.inl q)))]; exact hX⟩, fun _ _ => rfl⟩
  · refine ga_aload_n 0 dX9_sit_11 rfl ?_
    refine ga_get kf_X9_19 (sh1 _) hcur dX9_sit_12 ?_
    refine ga_iload_n 2 dX9_sit_15 rfl ?_
    refine ga_V1 km_X9_190 kv_X0_hasTower (c_X0_hasTower hc hK.1.2.1 t9) (shC hc _) rfl rfl (gt_rc0 (by decide)) (Nat.le_of_ble_eq_true rfl) dX9_sit_16 ?_
    refine ga_if_ne 25 dX9_sit_19 (by decide) (fun c_19 => ?_) (fun c_19 => ?_)
    · obtain ⟨k, hk, rfl⟩ := gx_in_of (by have := kw.1; have := kw.2.1; have := kw.2.2.1; have := kw.2.2.2.1; omega) c_8
      have ek : (nI k).toNatClampNeg = k := nI_clamp (by have := kw.1; have := kw.2.1; have := kw.2.2.1; have := kw.2.2.2.1; omega)
      obtain ⟨u, hu, rfl⟩ := gx_in_of (by have := kw.1; have := kw.2.1; have := kw.2.2.1; have := kw.2.2.2.1; omega) c_19
      have eu : (nI u).toNatClampNeg = u := nI_clamp (by have := kw.1; have := kw.2.1; have := kw.2.2.1; have := kw.2.2.2.1; omega)
      refine ga_aload_n 0 dX9_sit_25 rfl ?_
      refine ga_get kf_X9_29 (sh1 _) rfl dX9_sit_26 ?_
      refine ga_aload_n 0 dX9_sit_29 rfl ?_
      refine ga_get kf_X9_19 (sh1 _) hcur dX9_sit_30 ?_
      refine ga_iload_n 2 dX9_sit_33 rfl ?_
      refine ga_V2 km_X9_202 kv_X8_sitterAt (c_X8_sitterAt hc hK kw isS20 hV vw (by have := kw.2.1; omega)) (shS isS20 _) rfl rfl (gt_rc0 (by decide)) (Nat.le_of_ble_eq_true rfl) dX9_sit_34 ?_
      refine ga_iconst ((-1)) dX9_sit_37 (by decide) ?_
      refine ga_icmp_eq 44 dX9_sit_38 (by decide) (fun c_38 => ?_) (fun c_38 => ?_)
      · have hfree : gx_free K V (nI u).toNatClampNeg := eu.symm ▸ (gx_first_free kw u).mp c_38
        refine ga_aload_n 0 dX9_sit_44 rfl ?_
        refine ga_get kf_X9_39 (sh1 _) rfl dX9_sit_45 ?_
        refine ga_aload_n 0 dX9_sit_48 rfl ?_
        refine ga_get kf_X9_29 (sh1 _) rfl dX9_sit_49 ?_
        refine gd_V1 km_X9_238 kv_X4_remember (c_X4_remember h1 h2 hx hcnt) (sh30 _) rfl rfl (gt_rc0 (by decide)) (Nat.le_of_ble_eq_true rfl) dX9_sit_52 (fun r_52 w_52 q_52 => ?_)
        obtain ⟨rfl, orm, e1, e2, hcp⟩ := q_52
        have hX1 := gx_X_rem hX kw hcnt hx h3 orm e1 e2 hcp
        have hK := hX1.2.1
        have hV := hX1.2.2.1
        have h11 := hX1.1.2.1
        have hcur : (some (Value.ref (w_52 1 1).toNatClampNeg) : Option Value) = some (Value.ref c) := by rw [h11, nI_clamp (by have := gt_isC_lt hc; omega)]
        have hm161 : ∀ a, 161 ≤ a → w_52 a = w a := fun a ha => orm a (by omega) (by omega)
        refine ga_aload_n 0 dX9_sit_55 rfl ?_
        refine ga_get kf_X9_29 (sh1 _) rfl dX9_sit_56 ?_
        refine ga_get kf_X9_214 (shS isS20 _) rfl dX9_sit_59 ?_
        refine ga_iload_n 1 dX9_sit_62 rfl ?_
        refine gl_S2 isS20 hV kw hk dX9_sit_63 ?_
        refine gs_istore_n [(0, _), (1, _), (2, _), (3, _)] dX9_sit_64 (by decide) rfl rfl ?_
        refine ga_aload_n 0 dX9_sit_65 rfl ?_
        refine ga_get kf_X9_29 (sh1 _) rfl dX9_sit_66 ?_
        refine ga_get kf_X9_214 (shS isS20 _) rfl dX9_sit_69 ?_
        refine ga_iload_n 1 dX9_sit_72 rfl ?_
        refine ga_iload_n 2 dX9_sit_73 rfl ?_
        have hF : gx_Fr w_52 w_52 20 (20 + 5) := gx_Fr_rf
        refine ga_top (gx_seat (u + 1)) (gx_seat_s u).symm ?_
        refine gw_S2 hc hK kw isS20 hV hF hk dX9_sit_74 (fun w1 hK hV hF => ?_)
        refine ga_iload_n 3 dX9_sit_75 rfl ?_
        exact gd_iret dX9_sit_76 ⟨gv (by unfold aSit; rw [if_neg (fun q => q.elim c_8 c_19), if_pos hfree, ek]), ⟨c, by rw [nSit_g (fun q => q.elim c_8 (fun q => q.elim c_19 (fun q => q hfree)))]; rw [ek, eu]; exact gx_X_now hX1 (fun a q => hF a (by omega)) hV⟩, fun a ha => (hF a (by omega)).trans (hm161 a ha)⟩
      · have hfree : ¬ gx_free K V (nI u).toNatClampNeg := fun q => c_38 ((gx_first_free kw u).mpr (eu ▸ q))
        refine ga_ldc kc_X9_245 dX9_sit_41 ?_
        exact gd_iret dX9_sit_43 ⟨gv (by unfold aSit; rw [if_neg (fun q => q.elim c_8 c_19), if_neg hfree]), ⟨c, by rw [nSit_k (Or.inr (Or.inr hfree))]; exact hX⟩, fun _ _ => rfl⟩
    · have hno : gx_in a9 (nI (K 0 2)) = 0 ∨ gx_in t9 (nI (K 0 1)) = 0 := Or.inr c_19
      refine ga_ldc kc_X9_175 dX9_sit_22 ?_
      exact gd_iret dX9_sit_24 ⟨gv (by unfold aSit; rw [if_pos hno]), ⟨c, by rw [nSit_k (hno.elim Or.inl (fun q => Or.inr (Or.inl q)))]; exact hX⟩, fun _ _ => rfl⟩
set_option maxRecDepth 100000 in
set_option maxHeartbeats 4000000 in
theorem c_X9_rest {l : Launch} {G : gt_G} {n : Nat} {w : gt_W} {c : Nat} {K V : gx_K} {m : Int32} {hs : Nat → gx_K × Int32} {cnt : Nat} {im : Nat → Nat × (gx_K × Int32) × Nat} {sd : Nat} {x : Nat → Nat} {L fp : Nat} {Q : gx_K} (hX : gx_X w c K V m hs cnt im sd x L fp Q) (hW : gx_WF K V m hs cnt im sd x L fp Q) (a9 : Int32) : gt_D l G yX9_rest cX9_rest 3 (some .int) 3 n [.ref 1, .int a9] w (fun r w' => r = some (.int (aRest K V a9)) ∧ (∃ c', gx_XZ w' c' (nRest (K, (V, m), hs, cnt, im, sd, x, L, fp, Q) a9)) ∧ ∀ a, 161 ≤ a → w' a = w a) := by
  obtain ⟨⟨hc, h11, ⟨c2, hc2, hne2, h12⟩, hfp⟩, hK, hV, hpast, him, hsd, htx, hQ⟩ := id hX
  obtain ⟨kw, vw, vd, hhr, hcnt, hhs, him2, hsd2, hxL, hfp2, qw⟩ := id hW
  have hcur : (some (Value.ref (w 1 1).toNatClampNeg) : Option Value) = some (Value.ref c) := by rw [h11, nI_clamp (by have := gt_isC_lt hc; omega)]
  obtain ⟨nx, hx, h1, h2, h3⟩ := hpast
  refine gt_D_of (own := RX9) (nm := "rest") rfl rfl (by decide +kernel) (Nat.le_of_ble_eq_true rfl) ?_
  show gt_A _ _ _ _ _ _ _ _ _ _ _ [(0, .ref 1), (1, .int a9)] _ _
  refine ga_aload_n 0 dX9_rest_0 rfl ?_
  refine ga_get kf_X9_19 (sh1 _) hcur dX9_rest_1 ?_
  refine ga_iload_n 1 dX9_rest_4 rfl ?_
  refine ga_V1 km_X9_205 kv_X0_hasPlayer (c_X0_hasPlayer hc hK.1.2.2.1 a9) (shC hc _) rfl rfl (gt_rc0 (by decide)) (Nat.le_of_ble_eq_true rfl) dX9_rest_5 ?_
  refine ga_if_ne 14 dX9_rest_8 (by decide) (fun c_8 => ?_) (fun c_8 => ?_)
  · obtain ⟨k, hk, rfl⟩ := gx_in_of (by have := kw.1; have := kw.2.1; have := kw.2.2.1; have := kw.2.2.2.1; omega) c_8
    have ek : (nI k).toNatClampNeg = k := nI_clamp (by have := kw.1; have := kw.2.1; have := kw.2.2.1; have := kw.2.2.2.1; omega)
    refine ga_aload_n 0 dX9_rest_14 rfl ?_
    refine ga_get kf_X9_29 (sh1 _) rfl dX9_rest_15 ?_
    refine ga_get kf_X9_214 (shS isS20 _) rfl dX9_rest_18 ?_
    refine ga_iload_n 1 dX9_rest_21 rfl ?_
    refine gl_S2 isS20 hV kw hk dX9_rest_22 ?_
    refine gs_istore_n [(0, _), (1, _), (2, _)] dX9_rest_23 (by decide) rfl rfl ?_
    refine ga_iload_n 2 dX9_rest_24 rfl ?_
    refine ga_iconst ((-1)) dX9_rest_25 (by decide) ?_
    refine ga_icmp_ne 32 dX9_rest_26 (by decide) (fun c_26 => ?_) (fun c_26 => ?_)
    · have hz : ¬ V 2 (nI k).toNatClampNeg = 0 := fun q => c_26 ((gx_seat_m1 (by have := vw.2.2.1 k hk; have := kw.2.1; omega)).mpr (ek ▸ q))
      refine ga_aload_n 0 dX9_rest_32 rfl ?_
      refine ga_get kf_X9_39 (sh1 _) rfl dX9_rest_33 ?_
      refine ga_aload_n 0 dX9_rest_36 rfl ?_
      refine ga_get kf_X9_29 (sh1 _) rfl dX9_rest_37 ?_
      refine gd_V1 km_X9_238 kv_X4_remember (c_X4_remember h1 h2 hx hcnt) (sh30 _) rfl rfl (gt_rc0 (by decide)) (Nat.le_of_ble_eq_true rfl) dX9_rest_40 (fun r_40 w_40 q_40 => ?_)
      obtain ⟨rfl, orm, e1, e2, hcp⟩ := q_40
      have hX1 := gx_X_rem hX kw hcnt hx h3 orm e1 e2 hcp
      have hK := hX1.2.1
      have hV := hX1.2.2.1
      have h11 := hX1.1.2.1
      have hcur : (some (Value.ref (w_40 1 1).toNatClampNeg) : Option Value) = some (Value.ref c) := by rw [h11, nI_clamp (by have := gt_isC_lt hc; omega)]
      have hm161 : ∀ a, 161 ≤ a → w_40 a = w a := fun a ha => orm a (by omega) (by omega)
      refine ga_aload_n 0 dX9_rest_43 rfl ?_
      refine ga_get kf_X9_29 (sh1 _) rfl dX9_rest_44 ?_
      refine ga_get kf_X9_214 (shS isS20 _) rfl dX9_rest_47 ?_
      refine ga_iload_n 1 dX9_rest_50 rfl ?_
      refine ga_iconst ((-1)) dX9_rest_51 (by decide) ?_
      have hF : gx_Fr w_40 w_40 20 (20 + 5) := gx_Fr_rf
      refine ga_top (gx_seat 0) gx_seat_0.symm ?_
      refine gw_S2 hc hK kw isS20 hV hF hk dX9_rest_52 (fun w1 hK hV hF => ?_)
      refine ga_iload_n 2 dX9_rest_53 rfl ?_
      exact gd_iret dX9_rest_54 ⟨gv (by unfold aRest; rw [if_neg c_8, if_neg hz, ek]), ⟨c, by rw [nRest_g (fun q => q.elim c_8 hz)]; rw [ek]; exact gx_X_now hX1 (fun a q => hF a (by omega)) hV⟩, fun a ha => (hF a (by omega)).trans (hm161 a ha)⟩
    · have hz : V 2 (nI k).toNatClampNeg = 0 := ek.symm ▸ (gx_seat_m1 (by have := vw.2.2.1 k hk; have := kw.2.1; omega)).mp c_26
      refine ga_ldc kc_X9_245 dX9_rest_29 ?_
      exact gd_iret dX9_rest_31 ⟨gv (by unfold aRest; rw [if_neg c_8, if_pos hz]), ⟨c, by rw [nRest_k (Or.inr hz)]; exact hX⟩, fun _ _ => rfl⟩
  · refine ga_ldc kc_X9_175 dX9_rest_11 ?_
    exact gd_iret dX9_rest_13 ⟨gv (by unfold aRest; rw [if_pos c_8]), ⟨c, by rw [nRest_k (Or.inl c_8)]; exact hX⟩, fun _ _ => rfl⟩
set_option maxRecDepth 100000 in
set_option maxHeartbeats 4000000 in
theorem c_X9_sleep {l : Launch} {G : gt_G} {n : Nat} {w : gt_W} {c : Nat} {K V : gx_K} {m : Int32} {hs : Nat → gx_K × Int32} {cnt : Nat} {im : Nat → Nat × (gx_K × Int32) × Nat} {sd : Nat} {x : Nat → Nat} {L fp : Nat} {Q : gx_K} (hX : gx_X w c K V m hs cnt im sd x L fp Q) (hW : gx_WF K V m hs cnt im sd x L fp Q) (a9 b9 : Int32) : gt_D l G yX9_sleep cX9_sleep 4 (some .int) 3 n [.ref 1, .int a9, .int b9] w (fun r w' => r = some (.int (aSleep K m a9)) ∧ (∃ c', gx_XZ w' c' (nSleep (K, (V, m), hs, cnt, im, sd, x, L, fp, Q) a9 b9)) ∧ ∀ a, 161 ≤ a → w' a = w a) := by
  obtain ⟨⟨hc, h11, ⟨c2, hc2, hne2, h12⟩, hfp⟩, hK, hV, hpast, him, hsd, htx, hQ⟩ := id hX
  obtain ⟨kw, vw, vd, hhr, hcnt, hhs, him2, hsd2, hxL, hfp2, qw⟩ := id hW
  have hcur : (some (Value.ref (w 1 1).toNatClampNeg) : Option Value) = some (Value.ref c) := by rw [h11, nI_clamp (by have := gt_isC_lt hc; omega)]
  obtain ⟨nx, hx, h1, h2, h3⟩ := hpast
  refine gt_D_of (own := RX9) (nm := "sleep") rfl rfl (by decide +kernel) (Nat.le_of_ble_eq_true rfl) ?_
  show gt_A _ _ _ _ _ _ _ _ _ _ _ [(0, .ref 1), (1, .int a9), (2, .int b9)] _ _
  refine ga_aload_n 0 dX9_sleep_0 rfl ?_
  refine ga_get kf_X9_19 (sh1 _) hcur dX9_sleep_1 ?_
  refine ga_iload_n 1 dX9_sleep_4 rfl ?_
  refine ga_V1 km_X9_205 kv_X0_hasPlayer (c_X0_hasPlayer hc hK.1.2.2.1 a9) (shC hc _) rfl rfl (gt_rc0 (by decide)) (Nat.le_of_ble_eq_true rfl) dX9_sleep_5 ?_
  refine ga_if_ne 14 dX9_sleep_8 (by decide) (fun c_8 => ?_) (fun c_8 => ?_)
  · refine ga_aload_n 0 dX9_sleep_14 rfl ?_
    refine ga_get kf_X9_39 (sh1 _) rfl dX9_sleep_15 ?_
    refine ga_aload_n 0 dX9_sleep_18 rfl ?_
    refine ga_get kf_X9_29 (sh1 _) rfl dX9_sleep_19 ?_
    refine gd_V1 km_X9_238 kv_X4_remember (c_X4_remember h1 h2 hx hcnt) (sh30 _) rfl rfl (gt_rc0 (by decide)) (Nat.le_of_ble_eq_true rfl) dX9_sleep_22 (fun r_22 w_22 q_22 => ?_)
    obtain ⟨rfl, orm, e1, e2, hcp⟩ := q_22
    have hX1 := gx_X_rem hX kw hcnt hx h3 orm e1 e2 hcp
    have hK := hX1.2.1
    have hV := hX1.2.2.1
    have h11 := hX1.1.2.1
    have hcur : (some (Value.ref (w_22 1 1).toNatClampNeg) : Option Value) = some (Value.ref c) := by rw [h11, nI_clamp (by have := gt_isC_lt hc; omega)]
    have hm161 : ∀ a, 161 ≤ a → w_22 a = w a := fun a ha => orm a (by omega) (by omega)
    refine ga_aload_n 0 dX9_sleep_25 rfl ?_
    refine ga_get kf_X9_29 (sh1 _) rfl dX9_sleep_26 ?_
    refine ga_iload_n 1 dX9_sleep_29 rfl ?_
    refine ga_V1 km_X9_217 kv_X8_sleeps (c_X8_sleeps isS20 hV.2.1 a9) (shS isS20 _) rfl rfl (gt_rc0 (by decide)) (Nat.le_of_ble_eq_true rfl) dX9_sleep_30 ?_
    refine ga_if_eq 40 dX9_sleep_33 (by decide) (fun c_33 => ?_) (fun c_33 => ?_)
    · refine ga_iconst (nI 0) dX9_sleep_40 (by decide) ?_
      refine gs_istore_n [(0, _), (1, _), (2, _), (3, _)] dX9_sleep_41 (by decide) rfl rfl ?_
      refine ga_aload_n 0 dX9_sleep_42 rfl ?_
      refine ga_get kf_X9_29 (sh1 _) rfl dX9_sleep_43 ?_
      refine ga_iload_n 1 dX9_sleep_46 rfl ?_
      refine ga_iload_n 2 dX9_sleep_47 rfl ?_
      refine ga_V2 km_X9_246 kv_X8_setAsleep (c_X8_setAsleep isS20 hV.2.1 a9 b9) (shS isS20 _) rfl rfl (gt_rc0 (by decide)) (Nat.le_of_ble_eq_true rfl) dX9_sleep_48 ?_
      refine ga_iload_n 3 dX9_sleep_51 rfl ?_
      exact gd_iret dX9_sleep_52 ⟨gv (by unfold aSleep; rw [if_neg c_8]; first | exact (gx_slp0 c_33).symm | exact (gx_slp1 c_33).symm), ⟨c, by rw [nSleep_g c_8]; exact gx_X_now hX1 (fun a q => gt_wr_ne _ _ (by omega)) (gx_St_m hV)⟩, fun a ha => (gt_wr_ne _ _ (by omega)).trans (hm161 a ha)⟩
    · refine ga_iconst (nI 1) dX9_sleep_36 (by decide) ?_
      refine ga_goto 41 dX9_sleep_37 (by decide) ?_
      refine gs_istore_n [(0, _), (1, _), (2, _), (3, _)] dX9_sleep_41 (by decide) rfl rfl ?_
      refine ga_aload_n 0 dX9_sleep_42 rfl ?_
      refine ga_get kf_X9_29 (sh1 _) rfl dX9_sleep_43 ?_
      refine ga_iload_n 1 dX9_sleep_46 rfl ?_
      refine ga_iload_n 2 dX9_sleep_47 rfl ?_
      refine ga_V2 km_X9_246 kv_X8_setAsleep (c_X8_setAsleep isS20 hV.2.1 a9 b9) (shS isS20 _) rfl rfl (gt_rc0 (by decide)) (Nat.le_of_ble_eq_true rfl) dX9_sleep_48 ?_
      refine ga_iload_n 3 dX9_sleep_51 rfl ?_
      exact gd_iret dX9_sleep_52 ⟨gv (by unfold aSleep; rw [if_neg c_8]; first | exact (gx_slp0 c_33).symm | exact (gx_slp1 c_33).symm), ⟨c, by rw [nSleep_g c_8]; exact gx_X_now hX1 (fun a q => gt_wr_ne _ _ (by omega)) (gx_St_m hV)⟩, fun a ha => (gt_wr_ne _ _ (by omega)).trans (hm161 a ha)⟩
  · refine ga_ldc kc_X9_175 dX9_sleep_11 ?_
    exact gd_iret dX9_sleep_13 ⟨gv (by unfold aSleep; rw [if_pos c_8]), ⟨c, by rw [nSleep_k (c_8)]; exact hX⟩, fun _ _ => rfl⟩
set_option maxRecDepth 100000 in
set_option maxHeartbeats 4000000 in
theorem c_X9_turn {l : Launch} {G : gt_G} {n : Nat} {w : gt_W} {c : Nat} {K V : gx_K} {m : Int32} {hs : Nat → gx_K × Int32} {cnt : Nat} {im : Nat → Nat × (gx_K × Int32) × Nat} {sd : Nat} {x : Nat → Nat} {L fp : Nat} {Q : gx_K} (hX : gx_X w c K V m hs cnt im sd x L fp Q) (hW : gx_WF K V m hs cnt im sd x L fp Q) (a9 v9 : Int32) : gt_D l G yX9_turn cX9_turn 4 (some .int) 3 n [.ref 1, .int a9, .int v9] w (fun r w' => r = some (.int (aTurn K V a9 v9)) ∧ (∃ c', gx_XZ w' c' (nTurn (K, (V, m), hs, cnt, im, sd, x, L, fp, Q) a9 v9)) ∧ ∀ a, 161 ≤ a → w' a = w a) := by
  obtain ⟨⟨hc, h11, ⟨c2, hc2, hne2, h12⟩, hfp⟩, hK, hV, hpast, him, hsd, htx, hQ⟩ := id hX
  obtain ⟨kw, vw, vd, hhr, hcnt, hhs, him2, hsd2, hxL, hfp2, qw⟩ := id hW
  have hcur : (some (Value.ref (w 1 1).toNatClampNeg) : Option Value) = some (Value.ref c) := by rw [h11, nI_clamp (by have := gt_isC_lt hc; omega)]
  obtain ⟨nx, hx, h1, h2, h3⟩ := hpast
  refine gt_D_of (own := RX9) (nm := "turn") rfl rfl (by decide +kernel) (Nat.le_of_ble_eq_true rfl) ?_
  show gt_A _ _ _ _ _ _ _ _ _ _ _ [(0, .ref 1), (1, .int a9), (2, .int v9)] _ _
  refine ga_aload_n 0 dX9_turn_0 rfl ?_
  refine ga_get kf_X9_19 (sh1 _) hcur dX9_turn_1 ?_
  refine ga_iload_n 1 dX9_turn_4 rfl ?_
  refine ga_V1 km_X9_190 kv_X0_hasTower (c_X0_hasTower hc hK.1.2.1 a9) (shC hc _) rfl rfl (gt_rc0 (by decide)) (Nat.le_of_ble_eq_true rfl) dX9_turn_5 ?_
  refine ga_if_ne 14 dX9_turn_8 (by decide) (fun c_8 => ?_) (fun c_8 => ?_)
  · obtain ⟨k, hk, rfl⟩ := gx_in_of (by have := kw.1; have := kw.2.1; have := kw.2.2.1; have := kw.2.2.2.1; omega) c_8
    have ek : (nI k).toNatClampNeg = k := nI_clamp (by have := kw.1; have := kw.2.1; have := kw.2.2.1; have := kw.2.2.2.1; omega)
    refine ga_iload_n 2 dX9_turn_14 rfl ?_
    refine ga_iconst (nI 0) dX9_turn_15 (by decide) ?_
    refine ga_bipush (nI 99) dX9_turn_16 (by decide) ?_
    refine ga_S3 km_X9_82 kv_X9_within (c_X9_within v9 (nI 0) (nI 99)) (gt_rc0 (by decide)) (Nat.le_of_ble_eq_true rfl) dX9_turn_18 ?_
    refine ga_if_ne 27 dX9_turn_21 (by decide) (fun c_21 => ?_) (fun c_21 => ?_)
    · obtain ⟨u, -, hu, rfl⟩ := gx_wi_of (by decide) (by decide) c_21
      have eu : (nI u).toNatClampNeg = u := nI_clamp (by omega)
      refine ga_aload_n 0 dX9_turn_27 rfl ?_
      refine ga_get kf_X9_39 (sh1 _) rfl dX9_turn_28 ?_
      refine ga_aload_n 0 dX9_turn_31 rfl ?_
      refine ga_get kf_X9_29 (sh1 _) rfl dX9_turn_32 ?_
      refine gd_V1 km_X9_238 kv_X4_remember (c_X4_remember h1 h2 hx hcnt) (sh30 _) rfl rfl (gt_rc0 (by decide)) (Nat.le_of_ble_eq_true rfl) dX9_turn_35 (fun r_35 w_35 q_35 => ?_)
      obtain ⟨rfl, orm, e1, e2, hcp⟩ := q_35
      have hX1 := gx_X_rem hX kw hcnt hx h3 orm e1 e2 hcp
      have hK := hX1.2.1
      have hV := hX1.2.2.1
      have h11 := hX1.1.2.1
      have hcur : (some (Value.ref (w_35 1 1).toNatClampNeg) : Option Value) = some (Value.ref c) := by rw [h11, nI_clamp (by have := gt_isC_lt hc; omega)]
      have hm161 : ∀ a, 161 ≤ a → w_35 a = w a := fun a ha => orm a (by omega) (by omega)
      refine ga_aload_n 0 dX9_turn_38 rfl ?_
      refine ga_get kf_X9_29 (sh1 _) rfl dX9_turn_39 ?_
      refine ga_get kf_X9_199 (shS isS20 _) rfl dX9_turn_42 ?_
      refine ga_iload_n 1 dX9_turn_45 rfl ?_
      refine gl_S1 isS20 hV kw hk dX9_turn_46 ?_
      refine gs_istore_n [(0, _), (1, _), (2, _), (3, _)] dX9_turn_47 (by decide) rfl rfl ?_
      refine ga_aload_n 0 dX9_turn_48 rfl ?_
      refine ga_get kf_X9_29 (sh1 _) rfl dX9_turn_49 ?_
      refine ga_get kf_X9_199 (shS isS20 _) rfl dX9_turn_52 ?_
      refine ga_iload_n 1 dX9_turn_55 rfl ?_
      refine ga_iload_n 2 dX9_turn_56 rfl ?_
      have hF : gx_Fr w_35 w_35 20 (20 + 5) := gx_Fr_rf
      refine gw_S1 hc hK kw isS20 hV hF hk dX9_turn_57 (fun w1 hK hV hF => ?_)
      refine ga_iload_n 3 dX9_turn_58 rfl ?_
      exact gd_iret dX9_turn_59 ⟨gv (by unfold aTurn; rw [if_neg c_8, if_neg c_21, ek]), ⟨c, by rw [nTurn_g (fun q => q.elim c_8 c_21)]; rw [ek, eu]; exact gx_X_now hX1 (fun a q => hF a (by omega)) hV⟩, fun a ha => (hF a (by omega)).trans (hm161 a ha)⟩
    · refine ga_ldc kc_X9_86 dX9_turn_24 ?_
      exact gd_iret dX9_turn_26 ⟨gv (by unfold aTurn; rw [if_neg c_8, if_pos c_21]), ⟨c, by rw [nTurn_k (Or.inr c_21)]; exact hX⟩, fun _ _ => rfl⟩
  · refine ga_ldc kc_X9_175 dX9_turn_11 ?_
    exact gd_iret dX9_turn_13 ⟨gv (by unfold aTurn; rw [if_pos c_8]), ⟨c, by rw [nTurn_k (Or.inl c_8)]; exact hX⟩, fun _ _ => rfl⟩
set_option maxRecDepth 100000 in
set_option maxHeartbeats 4000000 in
theorem c_X9_send {l : Launch} {G : gt_G} {n : Nat} {w : gt_W} {c : Nat} {K V : gx_K} {m : Int32} {hs : Nat → gx_K × Int32} {cnt : Nat} {im : Nat → Nat × (gx_K × Int32) × Nat} {sd : Nat} {x : Nat → Nat} {L fp : Nat} {Q : gx_K} (hX : gx_X w c K V m hs cnt im sd x L fp Q) (hW : gx_WF K V m hs cnt im sd x L fp Q) (a9 : Int32) : gt_D l G yX9_send cX9_send 3 (some .int) 3 n [.ref 1, .int a9] w (fun r w' => r = some (.int (aSend K V a9)) ∧ (∃ c', gx_XZ w' c' (nSend (K, (V, m), hs, cnt, im, sd, x, L, fp, Q) a9)) ∧ ∀ a, 161 ≤ a → w' a = w a) := by
  obtain ⟨⟨hc, h11, ⟨c2, hc2, hne2, h12⟩, hfp⟩, hK, hV, hpast, him, hsd, htx, hQ⟩ := id hX
  obtain ⟨kw, vw, vd, hhr, hcnt, hhs, him2, hsd2, hxL, hfp2, qw⟩ := id hW
  have hcur : (some (Value.ref (w 1 1).toNatClampNeg) : Option Value) = some (Value.ref c) := by rw [h11, nI_clamp (by have := gt_isC_lt hc; omega)]
  obtain ⟨nx, hx, h1, h2, h3⟩ := hpast
  refine gt_D_of (own := RX9) (nm := "send") rfl rfl (by decide +kernel) (Nat.le_of_ble_eq_true rfl) ?_
  show gt_A _ _ _ _ _ _ _ _ _ _ _ [(0, .ref 1), (1, .int a9)] _ _
  refine ga_aload_n 0 dX9_send_0 rfl ?_
  refine ga_get kf_X9_19 (sh1 _) hcur dX9_send_1 ?_
  refine ga_iload_n 1 dX9_send_4 rfl ?_
  refine ga_V1 km_X9_220 kv_X0_hasBoat (c_X0_hasBoat hc hK.1.2.2.2 a9) (shC hc _) rfl rfl (gt_rc0 (by decide)) (Nat.le_of_ble_eq_true rfl) dX9_send_5 ?_
  refine ga_if_ne 14 dX9_send_8 (by decide) (fun c_8 => ?_) (fun c_8 => ?_)
  · obtain ⟨k, hk, rfl⟩ := gx_in_of (by have := kw.1; have := kw.2.1; have := kw.2.2.1; have := kw.2.2.2.1; omega) c_8
    have ek : (nI k).toNatClampNeg = k := nI_clamp (by have := kw.1; have := kw.2.1; have := kw.2.2.1; have := kw.2.2.2.1; omega)
    refine ga_aload_n 0 dX9_send_14 rfl ?_
    refine ga_get kf_X9_39 (sh1 _) rfl dX9_send_15 ?_
    refine ga_aload_n 0 dX9_send_18 rfl ?_
    refine ga_get kf_X9_29 (sh1 _) rfl dX9_send_19 ?_
    refine gd_V1 km_X9_238 kv_X4_remember (c_X4_remember h1 h2 hx hcnt) (sh30 _) rfl rfl (gt_rc0 (by decide)) (Nat.le_of_ble_eq_true rfl) dX9_send_22 (fun r_22 w_22 q_22 => ?_)
    obtain ⟨rfl, orm, e1, e2, hcp⟩ := q_22
    have hX1 := gx_X_rem hX kw hcnt hx h3 orm e1 e2 hcp
    have hK := hX1.2.1
    have hV := hX1.2.2.1
    have h11 := hX1.1.2.1
    have hcur : (some (Value.ref (w_22 1 1).toNatClampNeg) : Option Value) = some (Value.ref c) := by rw [h11, nI_clamp (by have := gt_isC_lt hc; omega)]
    have hm161 : ∀ a, 161 ≤ a → w_22 a = w a := fun a ha => orm a (by omega) (by omega)
    refine ga_aload_n 0 dX9_send_25 rfl ?_
    refine ga_get kf_X9_29 (sh1 _) rfl dX9_send_26 ?_
    refine ga_get kf_X9_226 (shS isS20 _) rfl dX9_send_29 ?_
    refine ga_iload_n 1 dX9_send_32 rfl ?_
    refine gl_S4 isS20 hV kw hk dX9_send_33 ?_
    refine gs_istore_n [(0, _), (1, _), (2, _)] dX9_send_34 (by decide) rfl rfl ?_
    refine ga_aload_n 0 dX9_send_35 rfl ?_
    refine ga_get kf_X9_29 (sh1 _) rfl dX9_send_36 ?_
    refine ga_get kf_X9_226 (shS isS20 _) rfl dX9_send_39 ?_
    refine ga_iload_n 1 dX9_send_42 rfl ?_
    refine ga_aload_n 0 dX9_send_43 rfl ?_
    refine ga_get kf_X9_19 (sh1 _) hcur dX9_send_44 ?_
    refine ga_get kf_X9_229 (shC hc _) rfl dX9_send_47 ?_
    refine ga_iload_n 1 dX9_send_50 rfl ?_
    refine gl_C6 hc hK kw hk dX9_send_51 ?_
    have hF : gx_Fr w_22 w_22 20 (20 + 5) := gx_Fr_rf
    refine gw_S4 hc hK kw isS20 hV hF hk dX9_send_52 (fun w1 hK hV hF => ?_)
    refine ga_iload_n 2 dX9_send_53 rfl ?_
    exact gd_iret dX9_send_54 ⟨gv (by unfold aSend; rw [if_neg c_8, ek]), ⟨c, by rw [nSend_g (c_8)]; rw [ek]; exact gx_X_now hX1 (fun a q => hF a (by omega)) hV⟩, fun a ha => (hF a (by omega)).trans (hm161 a ha)⟩
  · refine ga_ldc kc_X9_175 dX9_send_11 ?_
    exact gd_iret dX9_send_13 ⟨gv (by unfold aSend; rw [if_pos c_8]), ⟨c, by rw [nSend_k (c_8)]; exact hX⟩, fun _ _ => rfl⟩
