theorem gx_wr_of {w w' : gt_W} {a : Nat} {f : Nat → Int32} (o : ∀ b, b ≠ a → w' b = w b) (e : w' a = f) : w' = gt_wr w a f := by
  funext b
  by_cases h : b = a
  · rw [h, e, gt_wr_eq]
  · rw [o b h, gt_wr_ne _ _ h]
/-- n hours of winding -/
def gx_wn (K V : gx_K) (m : Int32) : Nat → gx_K
  | 0 => V
  | n + 1 => gx_wind K (gx_wn K V m n) m
theorem gx_wn_VW {K V : gx_K} {m : Int32} (vw : gx_VW K V) : ∀ n, gx_VW K (gx_wn K V m n)
  | 0 => vw
  | n + 1 => gx_wind_VW (gx_wn_VW vw n)
/-- only p sleeps -/
def gx_sp (p : Nat) : Int32 := nI 1 <<< (nI p &&& 31)
/-- all marks fit, if p sleeps -/
abbrev gx_fit (K V Q : gx_K) (p : Nat) : Prop := ∀ i, i < Q 0 0 → gx_sea K (gx_wn K V (gx_sp p) (Q 2 i)) (Q 1 i) = Q 3 i
theorem gx_Co_f25 {w w' : gt_W} {c : Nat} {K : gx_K} (hc : gt_isC c) (hF : gx_Fr w w' 25 30) (h : gx_Co w c K) : gx_Co w' c K := gx_Co_eq hc (fun a ha => hF a (Or.inl (by omega))) h
theorem gx_No_f25 {w w' : gt_W} {Q : gx_K} (hF : gx_Fr w w' 25 30) (h : gx_No w Q) : gx_No w' Q := gx_No_eq (fun a h1 h2 => hF a (Or.inr (by omega))) h
theorem gx_St20_f25 {w w' : gt_W} {K V : gx_K} {m : Int32} (hF : gx_Fr w w' 25 30) (h : gx_St w 20 K V m) : gx_St w' 20 K V m := gx_St_eq (fun a h1 h2 => hF a (Or.inl (by omega))) h
set_option maxRecDepth 100000 in
set_option maxHeartbeats 4000000 in
theorem c_X7_beginAsleep {l : Launch} {G : gt_G} {n : Nat} {w : gt_W} {p : Nat} : gt_D l G yX7_beginAsleep cX7_beginAsleep 4 none 2 n [.ref 141, .int (nI p), .ref 20, .ref 25] w (fun r w' => r = none ∧ gx_Fr w w' 25 30 ∧ ∀ (K V : gx_K) (m : Int32), gx_KW K → gx_St w 20 K V m → gx_St w' 25 K V (gx_sp p)) := by
  refine gt_D_of (own := RX7) (nm := "beginAsleep") rfl rfl (by decide +kernel) (Nat.le_of_ble_eq_true rfl) ?_
  show gt_A _ _ _ _ _ _ _ _ _ _ _ [(0, .ref 141), (1, .int (nI p)), (2, .ref 20), (3, .ref 25)] _ _
  refine ga_aload_n 3 dX7_beginAsleep_0 rfl ?_
  refine ga_aload_n 2 dX7_beginAsleep_1 rfl ?_
  refine gd_V1 km_X7_50 kv_X8_copy (c_X8_copy isS25 isS20 (Or.inr (by decide))) (shS isS25 _) rfl rfl (gt_rc0 (by decide)) (Nat.le_of_ble_eq_true rfl) dX7_beginAsleep_2 (fun r_2 w_2 q_2 => ?_)
  obtain ⟨rfl, hF, hcp⟩ := q_2
  refine ga_aload_n 3 dX7_beginAsleep_5 rfl ?_
  refine ga_iconst (nI 1) dX7_beginAsleep_6 (by decide) ?_
  refine ga_iload_n 1 dX7_beginAsleep_7 rfl ?_
  refine ga_ishl dX7_beginAsleep_8 ?_
  refine gw_put 1 kp_X7_54 (shS isS25 _) (shS isS25 _) rfl rfl (Nat.le_of_ble_eq_true rfl) dX7_beginAsleep_9 (fun w_9 o_9 e_9 => ?_)
  exact gd_vret dX7_beginAsleep_12 ⟨rfl, fun a ha => by rw [o_9 a (by omega)]; exact hF a ha, fun K V m kw h => by rw [gx_wr_of o_9 e_9]; exact gx_St_m (m' := gx_sp p) (hcp K V m kw h)⟩
set_option maxRecDepth 100000 in
set_option maxHeartbeats 4000000 in
theorem c_X7_fits {l : Launch} {G : gt_G} {n : Nat} {w : gt_W} {c : Nat} {K V : gx_K} {m : Int32} {Q : gx_K} {p : Nat} (hc : gt_isC c) (hK : gx_Co w c K) (kw : gx_KW K) (hV : gx_St w 20 K V m) (vw : gx_VW K V) (hQ : gx_No w Q) (qw : gx_QW K Q) : gt_D l G yX7_fits cX7_fits 8 (some .boolean) 4 n [.ref 141, .int (nI p), .ref c, .ref 20, .ref 114, .ref 25] w (fun r w' => r = some (.int (if gx_fit K V Q p then nI 1 else nI 0)) ∧ gx_Fr w w' 25 30) := by
  refine gt_D_of (own := RX7) (nm := "fits") rfl rfl (by decide +kernel) (Nat.le_of_ble_eq_true rfl) ?_
  show gt_A _ _ _ _ _ _ _ _ _ _ _ [(0, .ref 141), (1, .int (nI p)), (2, .ref c), (3, .ref 20), (4, .ref 114), (5, .ref 25)] _ _
  refine ga_aload_n 0 dX7_fits_0 rfl ?_
  refine ga_iload_n 1 dX7_fits_1 rfl ?_
  refine ga_aload_n 3 dX7_fits_2 rfl ?_
  refine ga_aload 5 dX7_fits_3 rfl ?_
  refine gd_V3 km_X7_32 kv_X7_beginAsleep c_X7_beginAsleep (sh141 _) rfl rfl (gt_rc0 (by decide)) (Nat.le_of_ble_eq_true rfl) dX7_fits_5 (fun r_5 w_5 q_5 => ?_)
  obtain ⟨rfl, hF5, hcp⟩ := q_5
  refine ga_aload 4 dX7_fits_8 rfl ?_
  refine ga_V0 km_X7_36 kv_X3_lastMark (c_X3_lastMark (gx_No_f25 hF5 hQ) qw) (sh114 _) rfl rfl (gt_rc0 (by decide)) (Nat.le_of_ble_eq_true rfl) dX7_fits_10 ?_
  refine gs_istore [(0, _), (1, _), (2, _), (3, _), (4, _), (5, _), (6, _)] dX7_fits_13 (by decide) rfl rfl ?_
  refine ga_iconst (nI 1) dX7_fits_15 (by decide) ?_
  refine gs_istore [(0, _), (1, _), (2, _), (3, _), (4, _), (5, _), (6, _), (7, _)] dX7_fits_16 (by decide) rfl rfl ?_
  have loop : ∀ k u, u + k = gx_mx (Q 2) (Q 0 0) → ∀ w2 : gt_W, gx_Co w2 c K → gx_No w2 Q → gx_St w2 25 K (gx_wn K V (gx_sp p) u) (gx_sp p) → gx_Fr w w2 25 30 → (∀ n, 1 ≤ n → n ≤ u → gx_mso K (gx_wn K V (gx_sp p) n) Q n) → gt_A l G RX7 "fits" cX7_fits 8 (some .boolean) (gt_rm 4 0 0) (gt_ZD G n (fun r w' => r = some (.int (if gx_fit K V Q p then nI 1 else nI 0)) ∧ gx_Fr w w' 25 30)) (n, 0, 0) 18 [(0, .ref 141), (1, .int (nI p)), (2, .ref c), (3, .ref 20), (4, .ref 114), (5, .ref 25), (6, .int (nI (gx_mx (Q 2) (Q 0 0)))), (7, .int (nI (u + 1)))] [] (gt_enc w2) := by
    intro k
    induction k with
    | zero =>
      intro u ht w2 hK hQ hT hF ho
      have eu : u = gx_mx (Q 2) (Q 0 0) := by omega
      have hl9 := gx_mx_le (f := Q 2) (b := 20) (Q 0 0) (fun k hk => (qw.2.1 k hk).2.2.1)
      refine ga_iload 7 dX7_fits_18 rfl ?_
      refine ga_iload 6 dX7_fits_20 rfl ?_
      refine ga_icmp_gt 52 dX7_fits_22 (by decide) (fun c_22 => ?_) (fun c_22 => absurd (nI_lt (by omega) (by omega)) c_22)
      refine ga_iconst (nI 1) dX7_fits_52 (by decide) ?_
      exact gd_zret dX7_fits_53 (by decide) ⟨gv (if_pos (fun i hi => by have h8 := qw.2.1 i hi; exact ho (Q 2 i) h8.2.1 (by rw [eu]; exact gx_mx_ge (f := Q 2) (Q 0 0) i hi) i hi rfl)).symm, hF⟩
    | succ k ih =>
      intro u ht w2 hK hQ hT hF ho
      have hl9 := gx_mx_le (f := Q 2) (b := 20) (Q 0 0) (fun k hk => (qw.2.1 k hk).2.2.1)
      refine ga_iload 7 dX7_fits_18 rfl ?_
      refine ga_iload 6 dX7_fits_20 rfl ?_
      refine ga_icmp_gt 52 dX7_fits_22 (by decide) (fun c_22 => absurd c_22 (nI_nlt (by omega) (by omega))) (fun c_22 => ?_)
      refine ga_aload 5 dX7_fits_25 rfl ?_
      refine ga_aload_n 2 dX7_fits_27 rfl ?_
      refine gd_V1 km_X7_42 kv_X8_wind (c_X8_wind hc hK kw isS25 hT (gx_wn_VW vw u)) (shS isS25 _) rfl rfl (gt_rc0 (by decide)) (Nat.le_of_ble_eq_true rfl) dX7_fits_28 (fun r_28 w_28 q_28 => ?_)
      obtain ⟨rfl, hF1, hT⟩ := q_28
      have hT : gx_St w_28 25 K (gx_wn K V (gx_sp p) (u + 1)) (gx_sp p) := hT
      have hK := gx_Co_f25 hc hF1 hK
      have hQ := gx_No_f25 hF1 hQ
      have hF := gx_Fr_tr hF hF1
      refine ga_aload 4 dX7_fits_31 rfl ?_
      refine ga_iload 7 dX7_fits_33 rfl ?_
      refine ga_aload_n 2 dX7_fits_35 rfl ?_
      refine ga_aload 5 dX7_fits_36 rfl ?_
      refine ga_V3 km_X7_46 kv_X3_marksAreSo (c_X3_marksAreSo hc hK kw isS25 hT (gx_wn_VW vw (u + 1)) hQ qw (N := u + 1) (by omega)) (sh114 _) rfl rfl (gt_rc0 (by decide)) (Nat.le_of_ble_eq_true rfl) dX7_fits_38 ?_
      refine ga_if_ne 46 dX7_fits_41 (by decide) (fun c_41 => ?_) (fun c_41 => ?_)
      · refine gs_iincN 7 1 [(0, _), (1, _), (2, _), (3, _), (4, _), (5, _), (6, _), (7, _)] dX7_fits_46 rfl (by decide) (by decide) rfl rfl ?_
        refine ga_goto 18 dX7_fits_49 (by decide) ?_
        refine ih (u + 1) (by omega) _ hK hQ hT hF (fun n h1 h2 => ?_)
        by_cases e : n = u + 1
        · subst e; exact Decidable.byContradiction fun q => c_41 (by rw [if_neg q]; decide)
        · exact ho n h1 (by omega)
      · have hno : ¬ gx_mso K (gx_wn K V (gx_sp p) (u + 1)) Q (u + 1) := fun q => absurd c_41 (by rw [if_pos q]; decide)
        refine ga_iconst (nI 0) dX7_fits_44 (by decide) ?_
        exact gd_zret dX7_fits_45 (by decide) ⟨gv (if_neg (fun q => hno (fun i hi hn => by rw [← hn]; exact q i hi))).symm, hF⟩
  exact loop (gx_mx (Q 2) (Q 0 0)) 0 (by omega) _ (gx_Co_f25 hc hF5 hK) (gx_No_f25 hF5 hQ) (hcp K V m kw hV) hF5 (fun n h1 h2 => by omega)
set_option maxRecDepth 100000 in
set_option maxHeartbeats 4000000 in
theorem c_X7_fitting {l : Launch} {G : gt_G} {n : Nat} {w : gt_W} {c : Nat} {K V : gx_K} {m : Int32} {Q : gx_K} (hc : gt_isC c) (hK : gx_Co w c K) (kw : gx_KW K) (hV : gx_St w 20 K V m) (vw : gx_VW K V) (hQ : gx_No w Q) (qw : gx_QW K Q) : gt_D l G yX7_fitting cX7_fitting 7 (some .int) 5 n [.ref 141, .ref c, .ref 20, .ref 114, .ref 25] w (fun r w' => r = some (.int (gx_set (fun p => ¬ V 2 p = 0 ∧ gx_fit K V Q p) (K 0 2))) ∧ gx_Fr w w' 25 30) := by
  refine gt_D_of (own := RX7) (nm := "fitting") rfl rfl (by decide +kernel) (Nat.le_of_ble_eq_true rfl) ?_
  show gt_A _ _ _ _ _ _ _ _ _ _ _ [(0, .ref 141), (1, .ref c), (2, .ref 20), (3, .ref 114), (4, .ref 25)] _ _
  refine ga_iconst (nI 0) dX7_fitting_0 (by decide) ?_
  refine gs_istore [(0, _), (1, _), (2, _), (3, _), (4, _), (5, _)] dX7_fitting_1 (by decide) rfl rfl ?_
  refine ga_iconst (nI 0) dX7_fitting_3 (by decide) ?_
  refine gs_istore [(0, _), (1, _), (2, _), (3, _), (4, _), (5, _), (6, _)] dX7_fitting_4 (by decide) rfl rfl ?_
  have loop : ∀ k t, t + k = K 0 2 → ∀ w2 : gt_W, gx_Co w2 c K → gx_No w2 Q → gx_St w2 20 K V m → gx_Fr w w2 25 30 → gt_A l G RX7 "fitting" cX7_fitting 7 (some .int) (gt_rm 5 0 0) (gt_ZD G n (fun r w' => r = some (.int (gx_set (fun p => ¬ V 2 p = 0 ∧ gx_fit K V Q p) (K 0 2))) ∧ gx_Fr w w' 25 30)) (n, 0, 0) 6 [(0, .ref 141), (1, .ref c), (2, .ref 20), (3, .ref 114), (4, .ref 25), (5, .int (gx_set (fun p => ¬ V 2 p = 0 ∧ gx_fit K V Q p) t)), (6, .int (nI t))] [] (gt_enc w2) := by
    intro k
    induction k with
    | zero =>
      intro t ht w2 hK hQ hV hF
      have et : t = K 0 2 := by omega
      refine ga_iload 6 dX7_fitting_6 rfl ?_
      refine ga_aload_n 1 dX7_fitting_8 rfl ?_
      refine ga_get kf_X7_16 (shC hc _) (gv hK.1.2.2.1) dX7_fitting_9 ?_
      refine ga_icmp_ge 55 dX7_fitting_12 (by decide) (fun c_12 => ?_) (fun c_12 => absurd (nI_le (by omega) (by have := kw.2.2.1; omega)) c_12)
      refine ga_iload 5 dX7_fitting_55 rfl ?_
      exact gd_iret dX7_fitting_57 ⟨gv (by rw [et]), hF⟩
    | succ k ih =>
      intro t ht w2 hK hQ hV hF
      have hb : V 2 t < 2 ^ 30 := by have := vw.2.2.1 t (by omega); have := kw.2.1; omega
      refine ga_iload 6 dX7_fitting_6 rfl ?_
      refine ga_aload_n 1 dX7_fitting_8 rfl ?_
      refine ga_get kf_X7_16 (shC hc _) (gv hK.1.2.2.1) dX7_fitting_9 ?_
      refine ga_icmp_ge 55 dX7_fitting_12 (by decide) (fun c_12 => absurd c_12 (nI_ge (by omega) (by have := kw.2.2.1; omega))) (fun c_12 => ?_)
      refine ga_aload_n 2 dX7_fitting_15 rfl ?_
      refine ga_get kf_X7_22 (shS isS20 _) rfl dX7_fitting_16 ?_
      refine ga_iload 6 dX7_fitting_19 rfl ?_
      refine gl_S2 isS20 hV kw (by omega) dX7_fitting_21 ?_
      refine ga_iconst ((-1)) dX7_fitting_22 (by decide) ?_
      refine ga_icmp_eq 49 dX7_fitting_23 (by decide) (fun c_23 => ?_) (fun c_23 => ?_)
      · refine gs_iincN 6 1 [(0, _), (1, _), (2, _), (3, _), (4, _), (5, _), (6, _)] dX7_fitting_49 rfl (by decide) (by decide) rfl rfl ?_
        refine ga_goto 6 dX7_fitting_52 (by decide) ?_
        have h9 := ih (t + 1) (by omega) _ hK hQ hV hF
        by_cases hq : ¬ V 2 t = 0 ∧ gx_fit K V Q t
        · rw [gx_set_t (P := fun p => ¬ V 2 p = 0 ∧ gx_fit K V Q p) hq] at h9
          first | exact h9 | exact absurd ((gx_seat_m1 hb).mp c_23) hq.1 | exact absurd c_37 (by rw [if_pos hq.2]; decide)
        · rw [gx_set_f (P := fun p => ¬ V 2 p = 0 ∧ gx_fit K V Q p) hq] at h9
          first | exact h9 | exact absurd ⟨fun q => c_23 ((gx_seat_m1 hb).mpr q), Decidable.byContradiction fun q => c_37 (by rw [if_neg q]; decide)⟩ hq
      · refine ga_aload_n 0 dX7_fitting_26 rfl ?_
        refine ga_iload 6 dX7_fitting_27 rfl ?_
        refine ga_aload_n 1 dX7_fitting_29 rfl ?_
        refine ga_aload_n 2 dX7_fitting_30 rfl ?_
        refine ga_aload_n 3 dX7_fitting_31 rfl ?_
        refine ga_aload 4 dX7_fitting_32 rfl ?_
        refine gd_V5 km_X7_28 kv_X7_fits (c_X7_fits hc hK kw hV vw hQ qw) (sh141 _) rfl rfl (gt_rc0 (by decide)) (Nat.le_of_ble_eq_true rfl) dX7_fitting_34 (fun r_34 w_34 q_34 => ?_)
        obtain ⟨rfl, hF1⟩ := q_34
        have hK := gx_Co_f25 hc hF1 hK
        have hQ := gx_No_f25 hF1 hQ
        have hV := gx_St20_f25 hF1 hV
        have hF := gx_Fr_tr hF hF1
        refine ga_if_eq 49 dX7_fitting_37 (by decide) (fun c_37 => ?_) (fun c_37 => ?_)
        · refine gs_iincN 6 1 [(0, _), (1, _), (2, _), (3, _), (4, _), (5, _), (6, _)] dX7_fitting_49 rfl (by decide) (by decide) rfl rfl ?_
          refine ga_goto 6 dX7_fitting_52 (by decide) ?_
          have h9 := ih (t + 1) (by omega) _ hK hQ hV hF
          by_cases hq : ¬ V 2 t = 0 ∧ gx_fit K V Q t
          · rw [gx_set_t (P := fun p => ¬ V 2 p = 0 ∧ gx_fit K V Q p) hq] at h9
            first | exact h9 | exact absurd ((gx_seat_m1 hb).mp c_23) hq.1 | exact absurd c_37 (by rw [if_pos hq.2]; decide)
          · rw [gx_set_f (P := fun p => ¬ V 2 p = 0 ∧ gx_fit K V Q p) hq] at h9
            first | exact h9 | exact absurd ⟨fun q => c_23 ((gx_seat_m1 hb).mpr q), Decidable.byContradiction fun q => c_37 (by rw [if_neg q]; decide)⟩ hq
        · refine ga_iload 5 dX7_fitting_40 rfl ?_
          refine ga_iconst (nI 1) dX7_fitting_42 (by decide) ?_
          refine ga_iload 6 dX7_fitting_43 rfl ?_
          refine ga_ishl dX7_fitting_45 ?_
          refine ga_ior dX7_fitting_46 ?_
          refine gs_istore [(0, _), (1, _), (2, _), (3, _), (4, _), (5, _), (6, _)] dX7_fitting_47 (by decide) rfl rfl ?_
          refine gs_iincN 6 1 [(0, _), (1, _), (2, _), (3, _), (4, _), (5, _), (6, _)] dX7_fitting_49 rfl (by decide) (by decide) rfl rfl ?_
          refine ga_goto 6 dX7_fitting_52 (by decide) ?_
          have h9 := ih (t + 1) (by omega) _ hK hQ hV hF
          by_cases hq : ¬ V 2 t = 0 ∧ gx_fit K V Q t
          · rw [gx_set_t (P := fun p => ¬ V 2 p = 0 ∧ gx_fit K V Q p) hq] at h9
            first | exact h9 | exact absurd ((gx_seat_m1 hb).mp c_23) hq.1 | exact absurd c_37 (by rw [if_pos hq.2]; decide)
          · rw [gx_set_f (P := fun p => ¬ V 2 p = 0 ∧ gx_fit K V Q p) hq] at h9
            first | exact h9 | exact absurd ⟨fun q => c_23 ((gx_seat_m1 hb).mpr q), Decidable.byContradiction fun q => c_37 (by rw [if_neg q]; decide)⟩ hq
  exact loop (K 0 2) 0 (by omega) _ hK hQ hV gx_Fr_rf
/-- which cell and hour a place of the noted seas is: c * 20 + n -/
abbrev gx_noted (w : gt_W) (row : Nat) (K V : gx_K) (m : Int32) (N : Nat) : Prop := ∀ n k, n < N → k < K 0 0 → w (143 + row) (k * 20 + n) = nI (gx_sea K (gx_wn K V m (n + 1)) k)
set_option maxRecDepth 100000 in
set_option maxHeartbeats 4000000 in
theorem c_X7_noteSeas {l : Launch} {G : gt_G} {n : Nat} {w : gt_W} {c : Nat} {K V : gx_K} {m : Int32} {row : Nat} (hc : gt_isC c) (hK : gx_Co w c K) (kw : gx_KW K) (hT : gx_St w 25 K V m) (vw : gx_VW K V) (hr : row < 6) : gt_D l G yX7_noteSeas cX7_noteSeas 6 none 3 n [.ref 141, .int (nI row), .ref c, .ref 25] w (fun r w' => r = none ∧ (∀ a, a ≠ 143 + row → (a < 25 ∨ 30 ≤ a) → w' a = w a) ∧ gx_noted w' row K V m 20) := by
  refine gt_D_of (own := RX7) (nm := "noteSeas") rfl rfl (by decide +kernel) (Nat.le_of_ble_eq_true rfl) ?_
  show gt_A _ _ _ _ _ _ _ _ _ _ _ [(0, .ref 141), (1, .int (nI row)), (2, .ref c), (3, .ref 25)] _ _
  refine ga_iconst (nI 0) dX7_noteSeas_0 (by decide) ?_
  refine gs_istore [(0, _), (1, _), (2, _), (3, _), (4, _)] dX7_noteSeas_1 (by decide) rfl rfl ?_
  have loop : ∀ k t, t + k = 20 → ∀ w2 : gt_W, gx_Co w2 c K → gx_St w2 25 K (gx_wn K V m t) m → (∀ a, a ≠ 143 + row → (a < 25 ∨ 30 ≤ a) → w2 a = w a) → gx_noted w2 row K V m t → gt_A l G RX7 "noteSeas" cX7_noteSeas 6 none (gt_rm 3 0 0) (gt_ZD G n (fun r w' => r = none ∧ (∀ a, a ≠ 143 + row → (a < 25 ∨ 30 ≤ a) → w' a = w a) ∧ gx_noted w' row K V m 20)) (n, 0, 0) 3 [(0, .ref 141), (1, .int (nI row)), (2, .ref c), (3, .ref 25), (4, .int (nI t))] [] (gt_enc w2) := by
    intro k
    induction k with
    | zero =>
      intro t ht w2 hK hT hF hn
      have et : t = 20 := by omega
      refine ga_iload 4 dX7_noteSeas_3 rfl ?_
      refine ga_bipush (nI 20) dX7_noteSeas_5 (by decide) ?_
      refine ga_icmp_ge 61 dX7_noteSeas_7 (by decide) (fun c_7 => ?_) (fun c_7 => absurd (nI_le (by omega) (by omega)) c_7)
      exact gd_vret dX7_noteSeas_61 ⟨rfl, hF, by rw [et] at hn; exact hn⟩
    | succ k ih =>
      intro t ht w2 hK hT hF hn
      refine ga_iload 4 dX7_noteSeas_3 rfl ?_
      refine ga_bipush (nI 20) dX7_noteSeas_5 (by decide) ?_
      refine ga_icmp_ge 61 dX7_noteSeas_7 (by decide) (fun c_7 => absurd c_7 (nI_ge (by omega) (by omega))) (fun c_7 => ?_)
      refine ga_aload_n 3 dX7_noteSeas_10 rfl ?_
      refine ga_aload_n 2 dX7_noteSeas_11 rfl ?_
      refine gd_V1 km_X7_42 kv_X8_wind (c_X8_wind hc hK kw isS25 hT (gx_wn_VW vw t)) (shS isS25 _) rfl rfl (gt_rc0 (by decide)) (Nat.le_of_ble_eq_true rfl) dX7_noteSeas_12 (fun r_12 w_12 q_12 => ?_)
      obtain ⟨rfl, hF1, hT⟩ := q_12
      have hK := gx_Co_f25 hc hF1 hK
      have hn : gx_noted w_12 row K V m t := fun n k h1 h2 => by rw [hF1 (143 + row) (Or.inr (by omega))]; exact hn n k h1 h2
      have hF := fun a h1 h2 => (hF1 a h2).trans (hF a h1 h2)
      refine ga_iconst (nI 0) dX7_noteSeas_15 (by decide) ?_
      refine gs_istore [(0, _), (1, _), (2, _), (3, _), (4, _), (5, _)] dX7_noteSeas_16 (by decide) rfl rfl ?_
      have loop2 : ∀ k2 k1, k1 + k2 = K 0 0 → ∀ w3 : gt_W, gx_Co w3 c K → gx_St w3 25 K (gx_wn K V m (t + 1)) m → (∀ a, a ≠ 143 + row → (a < 25 ∨ 30 ≤ a) → w3 a = w a) → gx_noted w3 row K V m t → (∀ q, q < k1 → w3 (143 + row) (q * 20 + t) = nI (gx_sea K (gx_wn K V m (t + 1)) q)) → gt_A l G RX7 "noteSeas" cX7_noteSeas 6 none (gt_rm 3 0 0) (gt_ZD G n (fun r w' => r = none ∧ (∀ a, a ≠ 143 + row → (a < 25 ∨ 30 ≤ a) → w' a = w a) ∧ gx_noted w' row K V m 20)) (n, 0, 0) 18 [(0, .ref 141), (1, .int (nI row)), (2, .ref c), (3, .ref 25), (4, .int (nI t)), (5, .int (nI k1))] [] (gt_enc w3) := by
        intro k2
        induction k2 with
        | zero =>
          intro k1 ht w3 hK hT hF hn hi
          have ek1 : k1 = K 0 0 := by omega
          refine ga_iload 5 dX7_noteSeas_18 rfl ?_
          refine ga_aload_n 2 dX7_noteSeas_20 rfl ?_
          refine ga_get kf_X7_61 (shC hc _) (gv hK.1.1) dX7_noteSeas_21 ?_
          refine ga_icmp_ge 55 dX7_noteSeas_24 (by decide) (fun c_24 => ?_) (fun c_24 => absurd (nI_le (by omega) (by have := kw.1; omega)) c_24)
          refine gs_iincN 4 1 [(0, _), (1, _), (2, _), (3, _), (4, _), (5, _)] dX7_noteSeas_55 rfl (by decide) (by decide) rfl rfl ?_
          refine ga_goto 3 dX7_noteSeas_58 (by decide) ?_
          refine ga_take 5 ?_
          exact ih (t + 1) (by omega) _ hK hT hF (fun n k hn1 hk => by
            by_cases e : n = t
            · rw [e]; exact hi k (by omega)
            · exact hn n k (by omega) hk)
        | succ k2 ih =>
          intro k1 ht w3 hK hT hF hn hi
          refine ga_iload 5 dX7_noteSeas_18 rfl ?_
          refine ga_aload_n 2 dX7_noteSeas_20 rfl ?_
          refine ga_get kf_X7_61 (shC hc _) (gv hK.1.1) dX7_noteSeas_21 ?_
          refine ga_icmp_ge 55 dX7_noteSeas_24 (by decide) (fun c_24 => absurd c_24 (nI_ge (by omega) (by have := kw.1; omega))) (fun c_24 => ?_)
          refine ga_aload_n 0 dX7_noteSeas_27 rfl ?_
          refine ga_get kf_X7_11 (sh141 _) rfl dX7_noteSeas_28 ?_
          refine ga_iload_n 1 dX7_noteSeas_31 rfl ?_
          refine ge_aald sh142 rfl rfl (gt_ixn hr) (if_pos hr) dX7_noteSeas_32 ?_
          refine ga_iload 5 dX7_noteSeas_33 rfl ?_
          refine ga_bipush (nI 20) dX7_noteSeas_35 (by decide) ?_
          refine ga_imul dX7_noteSeas_37 ?_
          refine ga_iload 4 dX7_noteSeas_38 rfl ?_
          refine ga_iadd dX7_noteSeas_40 ?_
          refine ga_aload_n 3 dX7_noteSeas_41 rfl ?_
          refine ga_aload_n 2 dX7_noteSeas_42 rfl ?_
          refine ga_iload 5 dX7_noteSeas_43 rfl ?_
          refine ga_V2 km_X7_68 kv_X8_seaAt (c_X8_seaAt hc hK kw isS25 hT (gx_wn_VW vw (t + 1)) (by have := kw.1; omega)) (shS isS25 _) rfl rfl (gt_rc0 (by decide)) (Nat.le_of_ble_eq_true rfl) dX7_noteSeas_45 ?_
          refine gw_iast (shRow (Or.inr (Or.inr ⟨rfl, rfl, hr⟩))) (k := k1 * 20 + t) (gt_ixe (by rw [pk_mul, nI_add]) (by have := kw.1; omega)) dX7_noteSeas_48 (fun w_48 o_48 e_48 => ?_)
          refine gs_iincN 5 1 [(0, _), (1, _), (2, _), (3, _), (4, _), (5, _)] dX7_noteSeas_49 rfl (by decide) (by decide) rfl rfl ?_
          refine ga_goto 18 dX7_noteSeas_52 (by decide) ?_
          refine ih (k1 + 1) (by omega) _ (gx_Co_eq hc (fun a ha => o_48 a (by omega)) hK) (gx_St_eq (fun a h1 h2 => o_48 a (by omega)) hT) (fun a h1 h2 => by rw [o_48 a h1]; exact hF a h1 h2) (fun n k hn1 hk => ?_) (fun q hq => ?_)
          · rw [e_48, upd_ne _ _ (by omega)]; exact hn n k hn1 hk
          · rw [e_48]
            by_cases e : q = k1
            · subst e; rw [upd_eq]
            · rw [upd_ne _ _ (by omega)]; exact hi q (by omega)
      exact loop2 (K 0 0) 0 (by omega) _ hK hT hF hn (fun q hq => by omega)
  exact loop 20 0 (by omega) _ hK hT (fun _ _ _ => rfl) (fun n k h1 h2 => by omega)
