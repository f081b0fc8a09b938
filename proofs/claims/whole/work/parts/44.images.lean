/-! images -/
def gx_ki (im : Nat → Nat × (gx_K × Int32) × Nat) (i : Nat) (v : gx_K × Int32) (sd : Nat) : Nat → Nat × (gx_K × Int32) × Nat := fun j => if j = i then (1, v, sd) else im j
def aKeep (a : Int32) : Int32 := if gx_wi a (nI 0) (nI 1) = 0 then gUNK else nI 1
def nKeep : gx_Z → Int32 → gx_Z
  | (K, v, hs, cnt, im, sd, r), a => if gx_wi a (nI 0) (nI 1) = 0 then (K, v, hs, cnt, im, sd, r) else (K, v, hs, 0, gx_ki im a.toNatClampNeg v sd, sd, r)
def aBack (im : Nat → Nat × (gx_K × Int32) × Nat) (a : Int32) : Int32 := if gx_wi a (nI 0) (nI 1) = 0 then gUNK else if (im a.toNatClampNeg).1 = 0 then gNOT else nI 1
def nBack : gx_Z → Int32 → gx_Z
  | (K, v, hs, cnt, im, sd, r), a => if gx_wi a (nI 0) (nI 1) = 0 ∨ (im a.toNatClampNeg).1 = 0 then (K, v, hs, cnt, im, sd, r) else (K, (im a.toNatClampNeg).2.1, hs, 0, im, (im a.toNatClampNeg).2.2, r)
theorem nKeep_k {K V : gx_K} {m : Int32} {hs : Nat → gx_K × Int32} {cnt : Nat} {im : Nat → Nat × (gx_K × Int32) × Nat} {sd : Nat} {x : Nat → Nat} {L fp : Nat} {Q : gx_K} {a : Int32} (h : gx_wi a (nI 0) (nI 1) = 0) : nKeep (K, (V, m), hs, cnt, im, sd, x, L, fp, Q) a = (K, (V, m), hs, cnt, im, sd, x, L, fp, Q) := if_pos h
theorem nKeep_g {K V : gx_K} {m : Int32} {hs : Nat → gx_K × Int32} {cnt : Nat} {im : Nat → Nat × (gx_K × Int32) × Nat} {sd : Nat} {x : Nat → Nat} {L fp : Nat} {Q : gx_K} {a : Int32} (h : ¬ (gx_wi a (nI 0) (nI 1) = 0)) : nKeep (K, (V, m), hs, cnt, im, sd, x, L, fp, Q) a = (K, (V, m), hs, 0, gx_ki im a.toNatClampNeg (V, m) sd, sd, x, L, fp, Q) := if_neg h
theorem nBack_k {K V : gx_K} {m : Int32} {hs : Nat → gx_K × Int32} {cnt : Nat} {im : Nat → Nat × (gx_K × Int32) × Nat} {sd : Nat} {x : Nat → Nat} {L fp : Nat} {Q : gx_K} {a : Int32} (h : gx_wi a (nI 0) (nI 1) = 0 ∨ (im a.toNatClampNeg).1 = 0) : nBack (K, (V, m), hs, cnt, im, sd, x, L, fp, Q) a = (K, (V, m), hs, cnt, im, sd, x, L, fp, Q) := if_pos h
theorem nBack_g {K V : gx_K} {m : Int32} {hs : Nat → gx_K × Int32} {cnt : Nat} {im : Nat → Nat × (gx_K × Int32) × Nat} {sd : Nat} {x : Nat → Nat} {L fp : Nat} {Q : gx_K} {a : Int32} (h : ¬ (gx_wi a (nI 0) (nI 1) = 0 ∨ (im a.toNatClampNeg).1 = 0)) : nBack (K, (V, m), hs, cnt, im, sd, x, L, fp, Q) a = (K, (im a.toNatClampNeg).2.1, hs, 0, im, (im a.toNatClampNeg).2.2, x, L, fp, Q) := if_neg h
theorem gx_X_forget {w w' : gt_W} {c : Nat} {K V : gx_K} {m : Int32} {hs : Nat → gx_K × Int32} {cnt : Nat} {im : Nat → Nat × (gx_K × Int32) × Nat} {sd : Nat} {x : Nat → Nat} {L fp : Nat} {Q : gx_K} (hX : gx_X w c K V m hs cnt im sd x L fp Q) (o : ∀ a, a ≠ 30 → w' a = w a) (e1 : w' 30 1 = w 30 1) (e2 : w' 30 2 = nI 0) : gx_X w' c K V m hs 0 im sd x L fp Q := by
  obtain ⟨⟨hc, h11, h12, hfp⟩, hK, hV, ⟨nx, hx, h1, h2, h3⟩, him, hsd, htx, hQ⟩ := hX
  have hl := gt_isC_lt hc
  refine ⟨⟨hc, by rw [o 1 (by omega)]; exact h11, by rw [o 1 (by omega)]; exact h12, by rw [o 1 (by omega)]; exact hfp⟩, gx_Co_eq hc (fun a ha => o a (by omega)) hK, gx_St_eq (fun a q1 q2 => o a (by omega)) hV, ⟨nx, hx, e1.trans h1, e2, fun k hk => absurd hk (Nat.not_lt_zero k)⟩, fun i hi => ?_, by rw [o 113 (by omega)]; exact hsd, by rw [o 2 (by omega), o 3 (by omega)]; exact htx, gx_No_eq (fun a q1 q2 => o a (by omega)) hQ⟩
  have h := him i hi
  exact ⟨by rw [o (149 + 6 * i) (by omega)]; exact h.1, by rw [o (149 + 6 * i) (by omega)]; exact h.2.1, fun q => gx_St_eq (fun a q1 q2 => o a (by omega)) (h.2.2 q)⟩
theorem gx_X_img {w w' : gt_W} {c : Nat} {K V : gx_K} {m : Int32} {hs : Nat → gx_K × Int32} {cnt : Nat} {im : Nat → Nat × (gx_K × Int32) × Nat} {sd : Nat} {x : Nat → Nat} {L fp : Nat} {Q : gx_K} {im2 : Nat → Nat × (gx_K × Int32) × Nat} (hX : gx_X w c K V m hs cnt im sd x L fp Q) (o : ∀ a, (a < 149 ∨ 161 ≤ a) → w' a = w a) (hi2 : ∀ i, i < 2 → w' (149 + 6 * i) 1 = nI (im2 i).2.2 ∧ w' (149 + 6 * i) 2 = nI (im2 i).1 ∧ ((im2 i).1 = 1 → gx_St w' (150 + 6 * i) K (im2 i).2.1.1 (im2 i).2.1.2)) : gx_X w' c K V m hs cnt im2 sd x L fp Q := by
  obtain ⟨⟨hc, h11, h12, hfp⟩, hK, hV, ⟨nx, hx, h1, h2, h3⟩, him, hsd, htx, hQ⟩ := hX
  have hl := gt_isC_lt hc
  exact ⟨⟨hc, by rw [o 1 (by omega)]; exact h11, by rw [o 1 (by omega)]; exact h12, by rw [o 1 (by omega)]; exact hfp⟩, gx_Co_eq hc (fun a ha => o a (by omega)) hK, gx_St_eq (fun a q1 q2 => o a (by omega)) hV, ⟨nx, hx, by rw [o 30 (by omega)]; exact h1, by rw [o 30 (by omega)]; exact h2, fun k hk => gx_St_eq (fun a q1 q2 => o a (by omega)) (h3 k hk)⟩, hi2, by rw [o 113 (by omega)]; exact hsd, by rw [o 2 (by omega), o 3 (by omega)]; exact htx, gx_No_eq (fun a q1 q2 => o a (by omega)) hQ⟩
theorem gx_X_kept {w w1 w2 w3 : gt_W} {c : Nat} {K V : gx_K} {m : Int32} {hs : Nat → gx_K × Int32} {cnt : Nat} {im : Nat → Nat × (gx_K × Int32) × Nat} {sd : Nat} {x : Nat → Nat} {L fp : Nat} {Q : gx_K} {i : Nat} (hX : gx_X w c K V m hs cnt im sd x L fp Q) (kw : gx_KW K) (hi : i < 2) (hF : gx_Fr w w1 (150 + 6 * i) (150 + 6 * i + 5)) (hS : gx_St w1 (150 + 6 * i) K V m) (o2 : ∀ a, a ≠ 149 + 6 * i → w2 a = w1 a) (e2 : w2 (149 + 6 * i) = upd (w1 (149 + 6 * i)) 1 (nI sd)) (o3 : ∀ a, a ≠ 149 + 6 * i → w3 a = w2 a) (e3 : w3 (149 + 6 * i) = upd (w2 (149 + 6 * i)) 2 (nI 1)) : gx_X w3 c K V m hs cnt (gx_ki im i (V, m) sd) sd x L fp Q := by
  have him := hX.2.2.2.2.1
  have oo : ∀ a, a ≠ 149 + 6 * i → (a < 150 + 6 * i ∨ 150 + 6 * i + 5 ≤ a) → w3 a = w a := fun a h1 h2 => by rw [o3 a h1, o2 a h1, hF a h2]
  refine gx_X_img hX (fun a ha => oo a (by omega) (by omega)) (fun j hj => ?_)
  unfold gx_ki
  by_cases e : j = i
  · subst e
    rw [if_pos rfl]
    refine ⟨by rw [e3, upd_ne _ _ (by decide), e2, upd_eq], by rw [e3, upd_eq], fun _ => gx_St_eq (fun a q1 q2 => ?_) hS⟩
    rw [o3 a (by omega), o2 a (by omega)]
  · rw [if_neg e]
    have h := him j hj
    rw [oo (149 + 6 * j) (by omega) (by omega)]
    exact ⟨h.1, h.2.1, fun q => gx_St_eq (fun a q1 q2 => oo a (by omega) (by omega)) (h.2.2 q)⟩
set_option maxRecDepth 100000 in
set_option maxHeartbeats 4000000 in
theorem c_X9_keep {l : Launch} {G : gt_G} {n : Nat} {w : gt_W} {c : Nat} {K V : gx_K} {m : Int32} {hs : Nat → gx_K × Int32} {cnt : Nat} {im : Nat → Nat × (gx_K × Int32) × Nat} {sd : Nat} {x : Nat → Nat} {L fp : Nat} {Q : gx_K} (hX : gx_X w c K V m hs cnt im sd x L fp Q) (hW : gx_WF K V m hs cnt im sd x L fp Q) (a9 : Int32) : gt_D l G yX9_keep cX9_keep 2 (some .int) 2 n [.ref 1, .int a9] w (fun r w' => r = some (.int (aKeep a9)) ∧ (∃ c', gx_XZ w' c' (nKeep (K, (V, m), hs, cnt, im, sd, x, L, fp, Q) a9)) ∧ ∀ a, 161 ≤ a → w' a = w a) := by
  obtain ⟨⟨hc, h11, ⟨c2, hc2, hne2, h12⟩, hfp⟩, hK, hV, hpast, him, hsd, htx, hQ⟩ := id hX
  obtain ⟨kw, vw, vd, hhr, hcnt, hhs, him2, hsd2, hxL, hfp2, qw⟩ := id hW
  have hcur : (some (Value.ref (w 1 1).toNatClampNeg) : Option Value) = some (Value.ref c) := by rw [h11, nI_clamp (by have := gt_isC_lt hc; omega)]
  refine gt_D_of (own := RX9) (nm := "keep") rfl rfl (by decide +kernel) (Nat.le_of_ble_eq_true rfl) ?_
  show gt_A _ _ _ _ _ _ _ _ _ _ _ [(0, .ref 1), (1, .int a9)] _ _
  refine ga_iload_n 1 dX9_keep_0 rfl ?_
  refine ga_iconst (nI 0) dX9_keep_1 (by decide) ?_
  refine ga_iconst (nI 1) dX9_keep_2 (by decide) ?_
  refine ga_S3 km_X9_82 kv_X9_within (c_X9_within a9 (nI 0) (nI 1)) (gt_rc0 (by decide)) (Nat.le_of_ble_eq_true rfl) dX9_keep_3 ?_
  refine ga_if_ne 12 dX9_keep_6 (by decide) (fun c_6 => ?_) (fun c_6 => ?_)
  · obtain ⟨i, hil, hi, rfl⟩ := gx_wi_of (by decide) (by decide) c_6
    have ei : (nI i).toNatClampNeg = i := nI_clamp (by omega)
    have hi2 : i < 2 := by omega
    refine ga_aload_n 0 dX9_keep_12 rfl ?_
    refine ga_get kf_X9_45 (sh1 _) rfl dX9_keep_13 ?_
    refine ga_iload_n 1 dX9_keep_16 rfl ?_
    refine ge_aald sh112 rfl rfl (gt_ixn hi2) (if_pos hi2) dX9_keep_17 ?_
    refine ga_get kf_X9_307 (shIm hi2 _) rfl dX9_keep_18 ?_
    refine ga_aload_n 0 dX9_keep_21 rfl ?_
    refine ga_get kf_X9_29 (sh1 _) rfl dX9_keep_22 ?_
    refine gd_V1 km_X9_257 kv_X8_copy (c_X8_copy (isSi hi2) isS20 (by omega)) (shS (isSi hi2) _) rfl rfl (gt_rc0 (by decide)) (Nat.le_of_ble_eq_true rfl) dX9_keep_25 (fun r_25 w_25 q_25 => ?_)
    obtain ⟨rfl, hF0, hcp⟩ := q_25
    have hS := hcp K V m kw hV
    refine ga_aload_n 0 dX9_keep_28 rfl ?_
    refine ga_get kf_X9_45 (sh1 _) rfl dX9_keep_29 ?_
    refine ga_iload_n 1 dX9_keep_32 rfl ?_
    refine ge_aald sh112 rfl rfl (gt_ixn hi2) (if_pos hi2) dX9_keep_33 ?_
    refine ga_aload_n 0 dX9_keep_34 rfl ?_
    refine ga_get kf_X9_52 (sh1 _) rfl dX9_keep_35 ?_
    refine ga_get kf_X9_304 (sh113 _) (gv ((congrFun (hF0 113 (by omega)) 0).trans hsd)) dX9_keep_38 ?_
    refine gw_put 1 kp_X9_310 (shIm hi2 _) (shIm hi2 _) rfl rfl (Nat.le_of_ble_eq_true rfl) dX9_keep_41 (fun w_41 o_41 e_41 => ?_)
    refine ga_aload_n 0 dX9_keep_44 rfl ?_
    refine ga_get kf_X9_45 (sh1 _) rfl dX9_keep_45 ?_
    refine ga_iload_n 1 dX9_keep_48 rfl ?_
    refine ge_aald sh112 rfl rfl (gt_ixn hi2) (if_pos hi2) dX9_keep_49 ?_
    refine ga_iconst (nI 1) dX9_keep_50 (by decide) ?_
    refine gw_put 2 kp_X9_109 (shIm hi2 _) (shIm hi2 _) rfl rfl (Nat.le_of_ble_eq_true rfl) dX9_keep_51 (fun w_51 o_51 e_51 => ?_)
    refine ga_aload_n 0 dX9_keep_54 rfl ?_
    refine ga_get kf_X9_39 (sh1 _) rfl dX9_keep_55 ?_
    refine ga_V0 km_X9_103 kv_X4_forget c_X4_forget (sh30 _) rfl rfl (gt_rc0 (by decide)) (Nat.le_of_ble_eq_true rfl) dX9_keep_58 ?_
    refine ga_iconst (nI 1) dX9_keep_61 (by decide) ?_
    exact gd_iret dX9_keep_62 ⟨gv (by unfold aKeep; rw [if_neg c_6]), ⟨c, by rw [nKeep_g c_6, ei]; exact gx_X_forget (gx_X_kept hX kw hi2 hF0 hS o_41 e_41 o_51 e_51) (fun a ha => gt_wr_ne _ _ ha) (by rw [gt_wr_eq, upd_ne _ _ (by decide)]) (by rw [gt_wr_eq, upd_eq])⟩, fun a ha => by rw [gt_wr_ne _ _ (by omega), o_51 a (by omega), o_41 a (by omega), hF0 a (by omega)]⟩
  · refine ga_ldc kc_X9_175 dX9_keep_9 ?_
    exact gd_iret dX9_keep_11 ⟨gv (by unfold aKeep; rw [if_pos c_6]), ⟨c, by rw [nKeep_k (c_6)]; exact hX⟩, fun _ _ => rfl⟩
set_option maxRecDepth 100000 in
set_option maxHeartbeats 4000000 in
theorem c_X9_goBack {l : Launch} {G : gt_G} {n : Nat} {w : gt_W} {c : Nat} {K V : gx_K} {m : Int32} {hs : Nat → gx_K × Int32} {cnt : Nat} {im : Nat → Nat × (gx_K × Int32) × Nat} {sd : Nat} {x : Nat → Nat} {L fp : Nat} {Q : gx_K} (hX : gx_X w c K V m hs cnt im sd x L fp Q) (hW : gx_WF K V m hs cnt im sd x L fp Q) (a9 : Int32) : gt_D l G yX9_goBack cX9_goBack 2 (some .int) 2 n [.ref 1, .int a9] w (fun r w' => r = some (.int (aBack im a9)) ∧ (∃ c', gx_XZ w' c' (nBack (K, (V, m), hs, cnt, im, sd, x, L, fp, Q) a9)) ∧ ∀ a, 161 ≤ a → w' a = w a) := by
  obtain ⟨⟨hc, h11, ⟨c2, hc2, hne2, h12⟩, hfp⟩, hK, hV, hpast, him, hsd, htx, hQ⟩ := id hX
  obtain ⟨kw, vw, vd, hhr, hcnt, hhs, him2, hsd2, hxL, hfp2, qw⟩ := id hW
  have hcur : (some (Value.ref (w 1 1).toNatClampNeg) : Option Value) = some (Value.ref c) := by rw [h11, nI_clamp (by have := gt_isC_lt hc; omega)]
  refine gt_D_of (own := RX9) (nm := "goBack") rfl rfl (by decide +kernel) (Nat.le_of_ble_eq_true rfl) ?_
  show gt_A _ _ _ _ _ _ _ _ _ _ _ [(0, .ref 1), (1, .int a9)] _ _
  refine ga_iload_n 1 dX9_goBack_0 rfl ?_
  refine ga_iconst (nI 0) dX9_goBack_1 (by decide) ?_
  refine ga_iconst (nI 1) dX9_goBack_2 (by decide) ?_
  refine ga_S3 km_X9_82 kv_X9_within (c_X9_within a9 (nI 0) (nI 1)) (gt_rc0 (by decide)) (Nat.le_of_ble_eq_true rfl) dX9_goBack_3 ?_
  refine ga_if_ne 12 dX9_goBack_6 (by decide) (fun c_6 => ?_) (fun c_6 => ?_)
  · obtain ⟨i, hil, hi, rfl⟩ := gx_wi_of (by decide) (by decide) c_6
    have ei : (nI i).toNatClampNeg = i := nI_clamp (by omega)
    have hi2 : i < 2 := by omega
    have hii := him i hi2
    have hj := him2 i hi2
    refine ga_aload_n 0 dX9_goBack_12 rfl ?_
    refine ga_get kf_X9_45 (sh1 _) rfl dX9_goBack_13 ?_
    refine ga_iload_n 1 dX9_goBack_16 rfl ?_
    refine ge_aald sh112 rfl rfl (gt_ixn hi2) (if_pos hi2) dX9_goBack_17 ?_
    refine ga_get kf_X9_109 (shIm hi2 _) (gv hii.2.1) dX9_goBack_18 ?_
    refine ga_if_ne 27 dX9_goBack_21 (by decide) (fun c_21 => ?_) (fun c_21 => ?_)
    · have hz0 : ¬ (im i).1 = 0 := fun q => c_21 (by rw [q]; rfl)
      have hz : ¬ (im (nI i).toNatClampNeg).1 = 0 := ei.symm ▸ hz0
      have h1 : (im i).1 = 1 := by omega
      refine ga_aload_n 0 dX9_goBack_27 rfl ?_
      refine ga_get kf_X9_29 (sh1 _) rfl dX9_goBack_28 ?_
      refine ga_aload_n 0 dX9_goBack_31 rfl ?_
      refine ga_get kf_X9_45 (sh1 _) rfl dX9_goBack_32 ?_
      refine ga_iload_n 1 dX9_goBack_35 rfl ?_
      refine ge_aald sh112 rfl rfl (gt_ixn hi2) (if_pos hi2) dX9_goBack_36 ?_
      refine ga_get kf_X9_307 (shIm hi2 _) rfl dX9_goBack_37 ?_
      refine gd_V1 km_X9_257 kv_X8_copy (c_X8_copy isS20 (isSi hi2) (by omega)) (shS isS20 _) rfl rfl (gt_rc0 (by decide)) (Nat.le_of_ble_eq_true rfl) dX9_goBack_40 (fun r_40 w_40 q_40 => ?_)
      obtain ⟨rfl, hF0, hcp⟩ := q_40
      have hV1 := hcp K _ _ kw (hii.2.2 h1)
      have hX1 := gx_X_now hX (fun a q => hF0 a q) hV1
      refine ga_aload_n 0 dX9_goBack_43 rfl ?_
      refine ga_get kf_X9_52 (sh1 _) rfl dX9_goBack_44 ?_
      refine ga_aload_n 0 dX9_goBack_47 rfl ?_
      refine ga_get kf_X9_45 (sh1 _) rfl dX9_goBack_48 ?_
      refine ga_iload_n 1 dX9_goBack_51 rfl ?_
      refine ge_aald sh112 rfl rfl (gt_ixn hi2) (if_pos hi2) dX9_goBack_52 ?_
      refine ga_get kf_X9_310 (shIm hi2 _) (gv ((congrFun (hF0 (149 + 6 * i) (by omega)) 1).trans hii.1)) dX9_goBack_53 ?_
      refine gw_put 0 kp_X9_304 (sh113 _) (sh113 _) rfl rfl (Nat.le_of_ble_eq_true rfl) dX9_goBack_56 (fun w_56 o_56 e_56 => ?_)
      refine ga_aload_n 0 dX9_goBack_59 rfl ?_
      refine ga_get kf_X9_39 (sh1 _) rfl dX9_goBack_60 ?_
      refine ga_V0 km_X9_103 kv_X4_forget c_X4_forget (sh30 _) rfl rfl (gt_rc0 (by decide)) (Nat.le_of_ble_eq_true rfl) dX9_goBack_63 ?_
      refine ga_iconst (nI 1) dX9_goBack_66 (by decide) ?_
      exact gd_iret dX9_goBack_67 ⟨gv (by unfold aBack; rw [if_neg c_6, if_neg hz]), ⟨c, by rw [nBack_g (fun q => q.elim c_6 hz), ei]; exact gx_X_forget (gx_X_seed hX1 o_56 (by rw [e_56, upd_eq])) (fun a ha => gt_wr_ne _ _ ha) (by rw [gt_wr_eq, upd_ne _ _ (by decide)]) (by rw [gt_wr_eq, upd_eq])⟩, fun a ha => by rw [gt_wr_ne _ _ (by omega), o_56 a (by omega), hF0 a (by omega)]⟩
    · have hz : (im (nI i).toNatClampNeg).1 = 0 := ei.symm ▸ (nI_eq (by omega) (by decide)).mp (c_21.trans nI_0.symm)
      refine ga_ldc kc_X9_245 dX9_goBack_24 ?_
      exact gd_iret dX9_goBack_26 ⟨gv (by unfold aBack; rw [if_neg c_6, if_pos hz]), ⟨c, by rw [nBack_k (Or.inr hz)]; exact hX⟩, fun _ _ => rfl⟩
  · refine ga_ldc kc_X9_175 dX9_goBack_9 ?_
    exact gd_iret dX9_goBack_11 ⟨gv (by unfold aBack; rw [if_pos c_6]), ⟨c, by rw [nBack_k (Or.inl c_6)]; exact hX⟩, fun _ _ => rfl⟩
