theorem gx_M_text {w w' : gt_W} {K V : gx_K} {m : Int32} {hs : Nat → gx_K × Int32} {cnt : Nat} {im : Nat → Nat × (gx_K × Int32) × Nat} {sd : Nat} {x : Nat → Nat} {L fp : Nat} {Q : gx_K} {x2 : Nat → Nat} {L2 : Nat} (h : gx_M w K V m hs cnt im sd x L fp Q) (o : ∀ b, b ≠ 161 → b ≠ 169 → w' b = w b) (e : ∀ q, q ≠ 10 → w' 161 q = w 161 q) (ht : w' 161 10 = nI L2 ∧ ∀ j, j < L2 → w' 169 j = nI (x2 j)) : gx_M w' K V m hs cnt im sd x2 L2 fp Q := by
  unfold gx_M gx_mn at h ⊢
  rw [o 162 (by decide) (by decide), o 164 (by decide) (by decide), o 166 (by decide) (by decide), o 167 (by decide) (by decide), o 168 (by decide) (by decide), o 170 (by decide) (by decide), o 171 (by decide) (by decide), o 172 (by decide) (by decide), e 5 (by decide), e 8 (by decide), e 11 (by decide), e 13 (by decide), e 15 (by decide), e 17 (by decide)]
  exact ⟨h.1, h.2.1, h.2.2.1, h.2.2.2.1, h.2.2.2.2.1, ht, h.2.2.2.2.2.2⟩
theorem gx_M_seed {w w' : gt_W} {K V : gx_K} {m : Int32} {hs : Nat → gx_K × Int32} {cnt : Nat} {im : Nat → Nat × (gx_K × Int32) × Nat} {sd : Nat} {x : Nat → Nat} {L fp : Nat} {Q : gx_K} {sd2 : Nat} (h : gx_M w K V m hs cnt im sd x L fp Q) (o : ∀ b, b ≠ 161 → w' b = w b) (e : ∀ q, q ≠ 8 → w' 161 q = w 161 q) (e8 : w' 161 8 = nI sd2) : gx_M w' K V m hs cnt im sd2 x L fp Q := gx_M_drawn h (fun b h1 _ => o b h1) e e8 (by rw [o 164 (by decide)]; exact h.2.1)
theorem gx_M_forget {w w' : gt_W} {K V : gx_K} {m : Int32} {hs : Nat → gx_K × Int32} {cnt : Nat} {im : Nat → Nat × (gx_K × Int32) × Nat} {sd : Nat} {x : Nat → Nat} {L fp : Nat} {Q : gx_K} (h : gx_M w K V m hs cnt im sd x L fp Q) (o : ∀ b, b ≠ 161 → w' b = w b) (e : ∀ q, q ≠ 5 → w' 161 q = w 161 q) (e5 : w' 161 5 = nI 0) : gx_M w' K V m hs 0 im sd x L fp Q := by
  unfold gx_M gx_mn at h ⊢
  rw [o 162 (by decide), o 164 (by decide), o 166 (by decide), o 167 (by decide), o 168 (by decide), o 169 (by decide), o 170 (by decide), o 171 (by decide), o 172 (by decide), e 8 (by decide), e 10 (by decide), e 11 (by decide), e 13 (by decide), e 15 (by decide), e 17 (by decide)]
  exact ⟨h.1, h.2.1, ⟨e5, fun k hk => absurd hk (Nat.not_lt_zero k)⟩, h.2.2.2⟩
theorem gx_M_img {w w' : gt_W} {K V : gx_K} {m : Int32} {hs : Nat → gx_K × Int32} {cnt : Nat} {im : Nat → Nat × (gx_K × Int32) × Nat} {sd : Nat} {x : Nat → Nat} {L fp : Nat} {Q : gx_K} {im2 : Nat → Nat × (gx_K × Int32) × Nat} (h : gx_M w K V m hs cnt im sd x L fp Q) (o : ∀ b, b ≠ 167 → b ≠ 168 → w' b = w b) (hi : ∀ i, i < 2 → w' 167 (25 * i + 24) = nI (im2 i).2.2 ∧ w' 168 i = nI (im2 i).1 ∧ ((im2 i).1 = 1 → gx_ms (fun j => w' 167 (25 * i + j)) K (im2 i).2.1.1 (im2 i).2.1.2)) : gx_M w' K V m hs cnt im2 sd x L fp Q := by
  unfold gx_M gx_mn at h ⊢
  rw [o 161 (by decide) (by decide), o 162 (by decide) (by decide), o 164 (by decide) (by decide), o 166 (by decide) (by decide), o 169 (by decide) (by decide), o 170 (by decide) (by decide), o 171 (by decide) (by decide), o 172 (by decide) (by decide)]
  exact ⟨h.1, h.2.1, h.2.2.1, hi, h.2.2.2.2⟩
set_option maxRecDepth 100000 in
set_option maxHeartbeats 4000000 in
theorem c_X10_feed {l : Launch} {G : gt_G} {n : Nat} {w : gt_W} {K V : gx_K} {m : Int32} {hs : Nat → gx_K × Int32} {cnt : Nat} {im : Nat → Nat × (gx_K × Int32) × Nat} {sd : Nat} {x : Nat → Nat} {L fp : Nat} {Q : gx_K} (hX : gx_M w K V m hs cnt im sd x L fp Q) (hW : gx_WF K V m hs cnt im sd x L fp Q) (a9 : Int32) : gt_D l G yX10_feed cX10_feed 2 (some .int) 2 n [.ref 161, .int a9] w (fun r w' => r = some (.int (aFeed L a9)) ∧ gx_MZ w' (nFeed (K, (V, m), hs, cnt, im, sd, x, L, fp, Q) a9) ∧ ∀ a, a < 161 → w' a = w a) := by
  obtain ⟨hM, hV, hpast, him, hsd, htx, hfp, hQ⟩ := id hX
  obtain ⟨kw, vw, vd, hhr, hcnt, hhs, him2, hsd2, hxL, hfp2, qw⟩ := id hW
  refine gt_D_of (own := RX10) (nm := "feed") rfl rfl (by decide +kernel) (Nat.le_of_ble_eq_true rfl) ?_
  show gt_A _ _ _ _ _ _ _ _ _ _ _ [(0, .ref 161), (1, .int a9)] _ _
  refine ga_iload_n 1 dX10_feed_0 rfl ?_
  refine ga_i2l dX10_feed_1 ?_
  refine ga_lconst 0 dX10_feed_2 (by decide) ?_
  refine ga_ldc2_w kc_X10_84 dX10_feed_3 ?_
  refine ga_S3 km_X10_64 kv_X10_in (c_X10_in (x := a9) (a := nI 0) (b := nI 255) rfl (by decide) (by decide)) (gt_rc0 (by decide)) (Nat.le_of_ble_eq_true rfl) dX10_feed_6 ?_
  refine ga_if_ne 15 dX10_feed_9 (by decide) (fun c_9 => ?_) (fun c_9 => ?_)
  · obtain ⟨u, hul, hu, rfl⟩ := gx_wi_of (by decide) (by decide) c_9
    have eu : (nI u).toNatClampNeg = u := nI_clamp (by omega)
    refine ga_aload_n 0 dX10_feed_15 rfl ?_
    refine ga_get kf_X10_87 (sh161 _) (gv htx.1) dX10_feed_16 ?_
    refine ga_sipush (nI 240) dX10_feed_19 (by decide) ?_
    refine ga_icmp_ne 28 dX10_feed_22 (by decide) (fun c_22 => ?_) (fun c_22 => ?_)
    · have hfu : ¬ L = 240 := fun q => c_22 (by rw [q])
      have hlt : L < 240 := by have := hxL.1; omega
      refine ga_aload_n 0 dX10_feed_28 rfl ?_
      refine ga_get kf_X10_32 (sh161 _) rfl dX10_feed_29 ?_
      refine ga_aload_n 0 dX10_feed_32 rfl ?_
      refine ga_get kf_X10_87 (sh161 _) (gv htx.1) dX10_feed_33 ?_
      refine ga_iload_n 1 dX10_feed_36 rfl ?_
      refine gw_iast (sh169) (gt_ixn hlt) dX10_feed_37 (fun w_37 o_37 e_37 => ?_)
      refine ga_aload_n 0 dX10_feed_38 rfl ?_
      refine ga_dup dX10_feed_39 rfl ?_
      refine ga_get kf_X10_87 (sh161 _) (gv (show w_37 161 10 = nI L by rw [o_37 161 (by decide)]; exact htx.1)) dX10_feed_40 ?_
      refine ga_iconst (nI 1) dX10_feed_43 (by decide) ?_
      refine ga_iadd dX10_feed_44 ?_
      refine gw_put 10 kp_X10_87 (sh161 _) (sh161 _) rfl rfl (Nat.le_of_ble_eq_true rfl) dX10_feed_45 (fun w_45 o_45 e_45 => ?_)
      refine ga_aload_n 0 dX10_feed_48 rfl ?_
      refine ga_get kf_X10_87 (sh161 _) (gv (show w_45 161 10 = nI (L + 1) by rw [e_45, upd_eq, nI_add])) dX10_feed_49 ?_
      exact gd_iret dX10_feed_52 ⟨gv (by unfold aFeed; rw [if_neg c_9, if_neg hfu]), (by
        rw [nFeed_g (fun q => q.elim c_9 hfu), eu]
        refine gx_M_text hX (fun b h1 h2 => by rw [o_45 b h1, o_37 b h2]) (fun q hq => by rw [e_45, upd_ne _ _ hq, o_37 161 (by decide)]) ⟨by rw [e_45, upd_eq, nI_add], fun j hj => ?_⟩
        have hj : j < L + 1 := hj
        rw [o_45 169 (by decide), e_37]
        show upd (w 169) L (nI u) j = nI (if j = L then u else x j)
        by_cases e : j = L
        · rw [if_pos e, e, upd_eq]
        · rw [if_neg e, upd_ne _ _ e]; exact htx.2 j (by omega)), fun a ha => by rw [o_45 a (by omega), o_37 a (by omega)]⟩
    · have hfu : L = 240 := (nI_eq (by have := hxL.1; omega) (by decide)).mp c_22
      refine ga_ldc kc_X10_90 dX10_feed_25 ?_
      exact gd_iret dX10_feed_27 ⟨gv (by unfold aFeed; rw [if_neg c_9, if_pos hfu]), (by rw [nFeed_k (Or.inr hfu)]; exact hX), fun _ _ => rfl⟩
  · refine ga_ldc kc_X10_86 dX10_feed_12 ?_
    exact gd_iret dX10_feed_14 ⟨gv (by unfold aFeed; rw [if_pos c_9]), (by rw [nFeed_k (Or.inl c_9)]; exact hX), fun _ _ => rfl⟩
set_option maxRecDepth 100000 in
set_option maxHeartbeats 4000000 in
theorem c_X10_tear {l : Launch} {G : gt_G} {n : Nat} {w : gt_W} {K V : gx_K} {m : Int32} {hs : Nat → gx_K × Int32} {cnt : Nat} {im : Nat → Nat × (gx_K × Int32) × Nat} {sd : Nat} {x : Nat → Nat} {L fp : Nat} {Q : gx_K} (hX : gx_M w K V m hs cnt im sd x L fp Q) (hW : gx_WF K V m hs cnt im sd x L fp Q)  : gt_D l G yX10_tear cX10_tear 2 (some .int) 1 n [.ref 161] w (fun r w' => r = some (.int (nI (Q 0 0 + Q 0 1 + Q 0 2))) ∧ gx_MZ w' (nTear (K, (V, m), hs, cnt, im, sd, x, L, fp, Q)) ∧ ∀ a, a < 161 → w' a = w a) := by
  obtain ⟨hM, hV, hpast, him, hsd, htx, hfp, hQ⟩ := id hX
  obtain ⟨kw, vw, vd, hhr, hcnt, hhs, him2, hsd2, hxL, hfp2, qw⟩ := id hW
  refine gt_D_of (own := RX10) (nm := "tear") rfl rfl (by decide +kernel) (Nat.le_of_ble_eq_true rfl) ?_
  show gt_A _ _ _ _ _ _ _ _ _ _ _ [(0, .ref 161)] _ _
  refine ga_aload_n 0 dX10_tear_0 rfl ?_
  refine ga_get kf_X10_75 (sh161 _) (gv hQ.1.1) dX10_tear_1 ?_
  refine ga_aload_n 0 dX10_tear_4 rfl ?_
  refine ga_get kf_X10_78 (sh161 _) (gv hQ.1.2.1) dX10_tear_5 ?_
  refine ga_iadd dX10_tear_8 ?_
  refine ga_aload_n 0 dX10_tear_9 rfl ?_
  refine ga_get kf_X10_81 (sh161 _) (gv hQ.1.2.2) dX10_tear_10 ?_
  refine ga_iadd dX10_tear_13 ?_
  refine gs_istore_n [(0, _), (1, _)] dX10_tear_14 (by decide) rfl rfl ?_
  refine ga_aload_n 0 dX10_tear_15 rfl ?_
  refine ga_iconst (nI 0) dX10_tear_16 (by decide) ?_
  refine gw_put 13 kp_X10_75 (sh161 _) (sh161 _) rfl rfl (Nat.le_of_ble_eq_true rfl) dX10_tear_17 (fun w_17 o_17 e_17 => ?_)
  refine ga_aload_n 0 dX10_tear_20 rfl ?_
  refine ga_iconst (nI 0) dX10_tear_21 (by decide) ?_
  refine gw_put 15 kp_X10_78 (sh161 _) (sh161 _) rfl rfl (Nat.le_of_ble_eq_true rfl) dX10_tear_22 (fun w_22 o_22 e_22 => ?_)
  refine ga_aload_n 0 dX10_tear_25 rfl ?_
  refine ga_iconst (nI 0) dX10_tear_26 (by decide) ?_
  refine gw_put 17 kp_X10_81 (sh161 _) (sh161 _) rfl rfl (Nat.le_of_ble_eq_true rfl) dX10_tear_27 (fun w_27 o_27 e_27 => ?_)
  refine ga_iload_n 1 dX10_tear_30 rfl ?_
  exact gd_iret dX10_tear_31 ⟨gv (by rw [nI_add, nI_add]), (gx_M_notes hX (fun b h1 _ _ _ => by rw [o_27 b h1, o_22 b h1, o_17 b h1]) (fun q h1 h2 h3 => by rw [e_27, upd_ne _ _ h3, e_22, upd_ne _ _ h2, e_17, upd_ne _ _ h1]) ⟨⟨by rw [e_27, upd_ne _ _ (by decide), e_22, upd_ne _ _ (by decide), e_17, upd_eq]; rfl, by rw [e_27, upd_ne _ _ (by decide), e_22, upd_eq]; rfl, by rw [e_27, upd_eq]; rfl⟩, fun j hj => absurd hj (Nat.not_lt_zero j), fun j hj => absurd hj (Nat.not_lt_zero j), fun j hj => absurd hj (Nat.not_lt_zero j)⟩), fun a ha => by rw [o_27 a (by omega), o_22 a (by omega), o_17 a (by omega)]⟩
set_option maxRecDepth 100000 in
set_option maxHeartbeats 4000000 in
theorem c_X10_judge {l : Launch} {G : gt_G} {n : Nat} {w : gt_W} {K V : gx_K} {m : Int32} {hs : Nat → gx_K × Int32} {cnt : Nat} {im : Nat → Nat × (gx_K × Int32) × Nat} {sd : Nat} {x : Nat → Nat} {L fp : Nat} {Q : gx_K} (hX : gx_M w K V m hs cnt im sd x L fp Q) (hW : gx_WF K V m hs cnt im sd x L fp Q)  : gt_D l G yX10_judge cX10_judge 2 (some .int) 4 n [.ref 161] w (fun r w' => r = some (.int (gx_first (fun i => ¬ gx_sea K V (Q 7 i) = Q 8 i) 0 (Q 0 2))) ∧ gx_M w' K V m hs cnt im sd x L fp Q ∧ ∀ a, a < 161 → w' a = w a) := by
  obtain ⟨hM, hV, hpast, him, hsd, htx, hfp, hQ⟩ := id hX
  obtain ⟨kw, vw, vd, hhr, hcnt, hhs, him2, hsd2, hxL, hfp2, qw⟩ := id hW
  refine gt_D_of (own := RX10) (nm := "judge") rfl rfl (by decide +kernel) (Nat.le_of_ble_eq_true rfl) ?_
  show gt_A _ _ _ _ _ _ _ _ _ _ _ [(0, .ref 161)] _ _
  refine ga_iconst (nI 0) dX10_judge_0 (by decide) ?_
  refine gs_istore_n [(0, _), (1, _)] dX10_judge_1 (by decide) rfl rfl ?_
  have loop : ∀ j t, t + j = Q 0 2 → gx_first (fun i => ¬ gx_sea K V (Q 7 i) = Q 8 i) 0 (Q 0 2) = gx_first (fun i => ¬ gx_sea K V (Q 7 i) = Q 8 i) t j → gt_A l G RX10 "judge" cX10_judge 2 (some .int) (gt_rm 4 0 0) (gt_ZD G n (fun r w' => r = some (.int (gx_first (fun i => ¬ gx_sea K V (Q 7 i) = Q 8 i) 0 (Q 0 2))) ∧ gx_M w' K V m hs cnt im sd x L fp Q ∧ ∀ a, a < 161 → w' a = w a)) (n, 0, 0) 2 [(0, .ref 161), (1, .int (nI t))] [] (gt_enc w) := by
    intro j
    induction j with
    | zero =>
      intro t ht hA
      have et : t = Q 0 2 := by omega
      refine ga_iload_n 1 dX10_judge_2 rfl ?_
      refine ga_aload_n 0 dX10_judge_3 rfl ?_
      refine ga_get kf_X10_81 (sh161 _) (gv hQ.1.2.2) dX10_judge_4 ?_
      refine ga_icmp_ge 47 dX10_judge_7 (by decide) (fun c_7 => ?_) (fun c_7 => absurd (nI_le (by omega) (by have := qw.1; omega)) c_7)
      refine ga_iconst ((-1)) dX10_judge_47 (by decide) ?_
      exact gd_iret dX10_judge_48 ⟨gv (by rw [hA]; rfl), hX, fun _ _ => rfl⟩
    | succ j ih =>
      intro t ht hA
      have hq9 := hQ.2.2.2 t (by omega)
      have hq8 := qw.2.2.2 t (by omega)
      have hsl := gx_sea_le kw vw (Q 7 t)
      have hq7 := qw.1.2.2
      refine ga_iload_n 1 dX10_judge_2 rfl ?_
      refine ga_aload_n 0 dX10_judge_3 rfl ?_
      refine ga_get kf_X10_81 (sh161 _) (gv hQ.1.2.2) dX10_judge_4 ?_
      refine ga_icmp_ge 47 dX10_judge_7 (by decide) (fun c_7 => absurd c_7 (nI_ge (by omega) (by have := qw.1; omega))) (fun c_7 => ?_)
      refine ga_aload_n 0 dX10_judge_10 rfl ?_
      refine ga_aload_n 0 dX10_judge_11 rfl ?_
      refine ga_get kf_X10_16 (sh161 _) rfl dX10_judge_12 ?_
      refine ga_aload_n 0 dX10_judge_15 rfl ?_
      refine ga_get kf_X10_45 (sh161 _) rfl dX10_judge_16 ?_
      refine ga_iconst (nI 2) dX10_judge_19 (by decide) ?_
      refine ga_iload_n 1 dX10_judge_20 rfl ?_
      refine ga_imul dX10_judge_21 ?_
      refine ge_ialdE sh172 (k := 2 * t) (gt_ixe (pk_mul 2 t) (by omega) (by decide)) hq9.1 dX10_judge_22 ?_
      refine ga_V2 km_X10_155 kv_X10_seaOn (c_X10_seaOn hM kw as164 hV vw (by have := kw.1; omega)) (sh161 _) rfl rfl (gt_rc0 (by decide)) (Nat.le_of_ble_eq_true rfl) dX10_judge_23 ?_
      refine ga_aload_n 0 dX10_judge_26 rfl ?_
      refine ga_get kf_X10_45 (sh161 _) rfl dX10_judge_27 ?_
      refine ga_iconst (nI 2) dX10_judge_30 (by decide) ?_
      refine ga_iload_n 1 dX10_judge_31 rfl ?_
      refine ga_imul dX10_judge_32 ?_
      refine ga_iconst (nI 1) dX10_judge_33 (by decide) ?_
      refine ga_iadd dX10_judge_34 ?_
      refine ge_ialdE sh172 (k := 2 * t + 1) (gt_ixe (show nI 2 * nI t + nI 1 = nI (2 * t + 1) by rw [pk_mul, nI_add]) (by omega) (by decide)) hq9.2 dX10_judge_35 ?_
      refine ga_icmp_eq 41 dX10_judge_36 (by decide) (fun c_36 => ?_) (fun c_36 => ?_)
      · have hz : ¬ ¬ gx_sea K V (Q 7 t) = Q 8 t := fun q => q ((nI_eq (by omega) (by omega)).mp c_36)
        refine gs_iincN 1 1 [(0, _), (1, _)] dX10_judge_41 rfl (by decide) (by decide) rfl rfl ?_
        refine ga_goto 2 dX10_judge_44 (by decide) ?_
        exact ih (t + 1) (by omega) (hA.trans (gx_first_f (P := (fun i => ¬ gx_sea K V (Q 7 i) = Q 8 i)) hz))
      · have hz : ¬ gx_sea K V (Q 7 t) = Q 8 t := fun q => c_36 (by rw [q])
        refine ga_iload_n 1 dX10_judge_39 rfl ?_
        exact gd_iret dX10_judge_40 ⟨gv (by rw [hA]; exact (gx_first_t (P := (fun i => ¬ gx_sea K V (Q 7 i) = Q 8 i)) hz).symm), hX, fun _ _ => rfl⟩
  exact loop (Q 0 2) 0 (by omega) rfl
set_option maxRecDepth 100000 in
set_option maxHeartbeats 4000000 in
theorem c_X10_seed {l : Launch} {G : gt_G} {n : Nat} {w : gt_W} {K V : gx_K} {m : Int32} {hs : Nat → gx_K × Int32} {cnt : Nat} {im : Nat → Nat × (gx_K × Int32) × Nat} {sd : Nat} {x : Nat → Nat} {L fp : Nat} {Q : gx_K} (hX : gx_M w K V m hs cnt im sd x L fp Q) (hW : gx_WF K V m hs cnt im sd x L fp Q) (a9 : Int32) : gt_D l G yX10_seed cX10_seed 3 (some .int) 1 n [.ref 161, .int a9] w (fun r w' => r = some (.int (aSeed sd a9)) ∧ gx_MZ w' (nSeed (K, (V, m), hs, cnt, im, sd, x, L, fp, Q) a9) ∧ ∀ a, a < 161 → w' a = w a) := by
  obtain ⟨hM, hV, hpast, him, hsd, htx, hfp, hQ⟩ := id hX
  obtain ⟨kw, vw, vd, hhr, hcnt, hhs, him2, hsd2, hxL, hfp2, qw⟩ := id hW
  refine gt_D_of (own := RX10) (nm := "seed") rfl rfl (by decide +kernel) (Nat.le_of_ble_eq_true rfl) ?_
  show gt_A _ _ _ _ _ _ _ _ _ _ _ [(0, .ref 161), (1, .int a9)] _ _
  refine ga_iload_n 1 dX10_seed_0 rfl ?_
  refine ga_if_ge 7 dX10_seed_1 (by decide) (fun c_1 => ?_) (fun c_1 => ?_)
  · have hz : ¬ a9 < 0 := Int32.not_lt.mpr c_1
    obtain ⟨k, hk, rfl⟩ := nI_of hz
    have ek : (nI k).toNatClampNeg = k := nI_clamp hk
    refine ga_aload_n 0 dX10_seed_7 rfl ?_
    refine ga_get kf_X10_237 (sh161 _) (gl_lng (show (w 161 8).toInt64 = lN sd by rw [hsd, nI_l (by omega)])) dX10_seed_8 ?_
    refine ga_l2i dX10_seed_11 ?_
    refine gs_istore_n [(0, _), (1, _), (2, _)] dX10_seed_12 (by decide) rfl rfl ?_
    refine ga_aload_n 0 dX10_seed_13 rfl ?_
    refine ga_iload_n 1 dX10_seed_14 rfl ?_
    refine ga_i2l dX10_seed_15 ?_
    refine gw_long (b := k) 8 kp_X10_237 (sh161 _) (sh161_8 rfl) rfl rfl (Nat.le_of_ble_eq_true rfl) dX10_seed_16 (fun w_16 o_16 e_16 => ?_)
    refine ga_iload_n 2 dX10_seed_19 rfl ?_
    exact gd_iret dX10_seed_20 ⟨gv (by unfold aSeed; rw [if_neg hz, lN_i]), (by rw [nSeed_g hz, ek]; exact gx_M_seed hX o_16 (fun q hq => by rw [e_16, upd_ne _ _ hq]) (by rw [e_16, upd_eq])), fun a ha => o_16 a (by omega)⟩
  · have hz : a9 < 0 := Int32.not_le.mp c_1
    refine ga_ldc kc_X10_86 dX10_seed_4 ?_
    exact gd_iret dX10_seed_6 ⟨gv (by unfold aSeed; rw [if_pos hz]), (by rw [nSeed_k (hz)]; exact hX), fun _ _ => rfl⟩
set_option maxRecDepth 100000 in
set_option maxHeartbeats 4000000 in
theorem c_X10_keep {l : Launch} {G : gt_G} {n : Nat} {w : gt_W} {K V : gx_K} {m : Int32} {hs : Nat → gx_K × Int32} {cnt : Nat} {im : Nat → Nat × (gx_K × Int32) × Nat} {sd : Nat} {x : Nat → Nat} {L fp : Nat} {Q : gx_K} (hX : gx_M w K V m hs cnt im sd x L fp Q) (hW : gx_WF K V m hs cnt im sd x L fp Q) (a9 : Int32) : gt_D l G yX10_keep cX10_keep 2 (some .int) 2 n [.ref 161, .int a9] w (fun r w' => r = some (.int (aKeep a9)) ∧ gx_MZ w' (nKeep (K, (V, m), hs, cnt, im, sd, x, L, fp, Q) a9) ∧ ∀ a, a < 161 → w' a = w a) := by
  obtain ⟨hM, hV, hpast, him, hsd, htx, hfp, hQ⟩ := id hX
  obtain ⟨kw, vw, vd, hhr, hcnt, hhs, him2, hsd2, hxL, hfp2, qw⟩ := id hW
  refine gt_D_of (own := RX10) (nm := "keep") rfl rfl (by decide +kernel) (Nat.le_of_ble_eq_true rfl) ?_
  show gt_A _ _ _ _ _ _ _ _ _ _ _ [(0, .ref 161), (1, .int a9)] _ _
  refine ga_iload_n 1 dX10_keep_0 rfl ?_
  refine ga_i2l dX10_keep_1 ?_
  refine ga_lconst 0 dX10_keep_2 (by decide) ?_
  refine ga_lconst 1 dX10_keep_3 (by decide) ?_
  refine ga_S3 km_X10_64 kv_X10_in (c_X10_in (x := a9) (a := nI 0) (b := nI 1) rfl (by decide) (by decide)) (gt_rc0 (by decide)) (Nat.le_of_ble_eq_true rfl) dX10_keep_4 ?_
  refine ga_if_ne 13 dX10_keep_7 (by decide) (fun c_7 => ?_) (fun c_7 => ?_)
  · obtain ⟨i, hil, hi, rfl⟩ := gx_wi_of (by decide) (by decide) c_7
    have ei : (nI i).toNatClampNeg = i := nI_clamp (by omega)
    have hi2 : i < 2 := by omega
    refine ga_aload_n 0 dX10_keep_13 rfl ?_
    refine ga_get kf_X10_16 (sh161 _) rfl dX10_keep_14 ?_
    refine ga_iconst (nI 0) dX10_keep_17 (by decide) ?_
    refine ga_aload_n 0 dX10_keep_18 rfl ?_
    refine ga_get kf_X10_25 (sh161 _) rfl dX10_keep_19 ?_
    refine ga_bipush (nI 25) dX10_keep_22 (by decide) ?_
    refine ga_iload_n 1 dX10_keep_24 rfl ?_
    refine ga_imul dX10_keep_25 ?_
    refine ga_top (nI (25 * i)) (pk_mul 25 i) ?_
    refine ga_bipush (nI 24) dX10_keep_26 (by decide) ?_
    refine ga_S5 km_X10_68 kv_X10_copies (c_X10_copies (i := 0) (j := 25 * i) (N := 24) sh164 sh167 (by decide) (by decide) (by omega) (by decide) (by decide)) (gt_rc0 (by decide)) (Nat.le_of_ble_eq_true rfl) dX10_keep_28 ?_
    generalize hw28 : gt_wr w 167 (gx_cp (w 164) (w 167) 0 (25 * i) 24) = w_28
    refine ga_aload_n 0 dX10_keep_31 rfl ?_
    refine ga_get kf_X10_25 (sh161 _) rfl dX10_keep_32 ?_
    refine ga_bipush (nI 25) dX10_keep_35 (by decide) ?_
    refine ga_iload_n 1 dX10_keep_37 rfl ?_
    refine ga_imul dX10_keep_38 ?_
    refine ga_bipush (nI 24) dX10_keep_39 (by decide) ?_
    refine ga_iadd dX10_keep_41 ?_
    refine ga_aload_n 0 dX10_keep_42 rfl ?_
    refine ga_get kf_X10_237 (sh161 _) (gl_lng (show (w_28 161 8).toInt64 = lN sd by rw [← hw28, gt_wr_ne _ _ (by decide), hsd, nI_l (by omega)])) dX10_keep_43 ?_
    refine ga_l2i dX10_keep_46 ?_
    refine ga_top (nI sd) (lN_i sd) ?_
    refine gw_iast (sh167) (k := 25 * i + 24) (gt_ixe (show nI 25 * nI i + nI 24 = nI (25 * i + 24) by rw [pk_mul, nI_add]) (by omega) (by decide)) dX10_keep_47 (fun w_47 o_47 e_47 => ?_)
    refine ga_aload_n 0 dX10_keep_48 rfl ?_
    refine ga_get kf_X10_28 (sh161 _) rfl dX10_keep_49 ?_
    refine ga_iload_n 1 dX10_keep_52 rfl ?_
    refine ga_iconst (nI 1) dX10_keep_53 (by decide) ?_
    refine gw_zast (sh168) (gt_ixn hi2) (by decide) dX10_keep_54 (fun w_54 o_54 e_54 => ?_)
    refine ga_aload_n 0 dX10_keep_55 rfl ?_
    refine ga_iconst (nI 0) dX10_keep_56 (by decide) ?_
    refine gw_put 5 kp_X10_72 (sh161 _) (sh161 _) rfl rfl (Nat.le_of_ble_eq_true rfl) dX10_keep_57 (fun w_57 o_57 e_57 => ?_)
    refine ga_iconst (nI 1) dX10_keep_60 (by decide) ?_
    exact gd_iret dX10_keep_61 ⟨gv (by unfold aKeep; rw [if_neg c_7]), (by
        rw [nKeep_g c_7, ei]
        have hX1 : gx_M w_54 K V m hs cnt (gx_ki im i (V, m) sd) sd x L fp Q := by
          refine gx_M_img hX (fun b h1 h2 => by rw [o_54 b h2, o_47 b h1, ← hw28, gt_wr_ne _ _ h1]) (fun j hj => ?_)
          have e167 : w_54 167 = upd (gx_cp (w 164) (w 167) 0 (25 * i) 24) (25 * i + 24) (nI sd) := by rw [o_54 167 (by decide), e_47, ← hw28, gt_wr_eq]
          have e168 : w_54 168 = upd (w 168) i (nI 1) := by rw [e_54, o_47 168 (by decide), ← hw28, gt_wr_ne _ _ (by decide)]
          rw [e167, e168]
          unfold gx_ki
          by_cases e : j = i
          · subst e
            rw [if_pos rfl]
            refine ⟨upd_eq _ _ _, upd_eq _ _ _, fun _ => gx_ms_eq kw (fun q hq => ?_) hV⟩
            rw [upd_ne _ _ (by omega), gx_cp_in hq, Nat.zero_add]
          · rw [if_neg e, upd_ne _ _ (by omega), gx_cp_out (by omega), upd_ne _ _ e]
            refine ⟨(him j hj).1, (him j hj).2.1, fun q => gx_ms_eq kw (fun r hr => ?_) ((him j hj).2.2 q)⟩
            rw [upd_ne _ _ (by omega), gx_cp_out (by omega)]
        exact gx_M_forget hX1 o_57 (fun q hq => by rw [e_57, upd_ne _ _ hq]) (by rw [e_57, upd_eq])), fun a ha => by rw [o_57 a (by omega), o_54 a (by omega), o_47 a (by omega), ← hw28, gt_wr_ne _ _ (by omega)]⟩
  · refine ga_ldc kc_X10_191 dX10_keep_10 ?_
    exact gd_iret dX10_keep_12 ⟨gv (by unfold aKeep; rw [if_pos c_7]), (by rw [nKeep_k (c_7)]; exact hX), fun _ _ => rfl⟩
set_option maxRecDepth 100000 in
set_option maxHeartbeats 4000000 in
theorem c_X10_goBack {l : Launch} {G : gt_G} {n : Nat} {w : gt_W} {K V : gx_K} {m : Int32} {hs : Nat → gx_K × Int32} {cnt : Nat} {im : Nat → Nat × (gx_K × Int32) × Nat} {sd : Nat} {x : Nat → Nat} {L fp : Nat} {Q : gx_K} (hX : gx_M w K V m hs cnt im sd x L fp Q) (hW : gx_WF K V m hs cnt im sd x L fp Q) (a9 : Int32) : gt_D l G yX10_goBack cX10_goBack 2 (some .int) 2 n [.ref 161, .int a9] w (fun r w' => r = some (.int (aBack im a9)) ∧ gx_MZ w' (nBack (K, (V, m), hs, cnt, im, sd, x, L, fp, Q) a9) ∧ ∀ a, a < 161 → w' a = w a) := by
  obtain ⟨hM, hV, hpast, him, hsd, htx, hfp, hQ⟩ := id hX
  obtain ⟨kw, vw, vd, hhr, hcnt, hhs, him2, hsd2, hxL, hfp2, qw⟩ := id hW
  refine gt_D_of (own := RX10) (nm := "goBack") rfl rfl (by decide +kernel) (Nat.le_of_ble_eq_true rfl) ?_
  show gt_A _ _ _ _ _ _ _ _ _ _ _ [(0, .ref 161), (1, .int a9)] _ _
  refine ga_iload_n 1 dX10_goBack_0 rfl ?_
  refine ga_i2l dX10_goBack_1 ?_
  refine ga_lconst 0 dX10_goBack_2 (by decide) ?_
  refine ga_lconst 1 dX10_goBack_3 (by decide) ?_
  refine ga_S3 km_X10_64 kv_X10_in (c_X10_in (x := a9) (a := nI 0) (b := nI 1) rfl (by decide) (by decide)) (gt_rc0 (by decide)) (Nat.le_of_ble_eq_true rfl) dX10_goBack_4 ?_
  refine ga_if_ne 13 dX10_goBack_7 (by decide) (fun c_7 => ?_) (fun c_7 => ?_)
  · obtain ⟨i, hil, hi, rfl⟩ := gx_wi_of (by decide) (by decide) c_7
    have ei : (nI i).toNatClampNeg = i := nI_clamp (by omega)
    have hi2 : i < 2 := by omega
    have hii := him i hi2
    have hj := him2 i hi2
    refine ga_aload_n 0 dX10_goBack_13 rfl ?_
    refine ga_get kf_X10_28 (sh161 _) rfl dX10_goBack_14 ?_
    refine ga_iload_n 1 dX10_goBack_17 rfl ?_
    refine ge_zald (sh168) (gt_ixn hi2) dX10_goBack_18 ?_
    refine ga_top _ hii.2.1 ?_
    refine ga_if_ne 25 dX10_goBack_19 (by decide) (fun c_19 => ?_) (fun c_19 => ?_)
    · have hz0 : ¬ (im i).1 = 0 := fun q => c_19 (by rw [q]; rfl)
      have hz : ¬ (im (nI i).toNatClampNeg).1 = 0 := ei.symm ▸ hz0
      have h1 : (im i).1 = 1 := by omega
      refine ga_aload_n 0 dX10_goBack_25 rfl ?_
      refine ga_get kf_X10_25 (sh161 _) rfl dX10_goBack_26 ?_
      refine ga_bipush (nI 25) dX10_goBack_29 (by decide) ?_
      refine ga_iload_n 1 dX10_goBack_31 rfl ?_
      refine ga_imul dX10_goBack_32 ?_
      refine ga_top (nI (25 * i)) (pk_mul 25 i) ?_
      refine ga_aload_n 0 dX10_goBack_33 rfl ?_
      refine ga_get kf_X10_16 (sh161 _) rfl dX10_goBack_34 ?_
      refine ga_iconst (nI 0) dX10_goBack_37 (by decide) ?_
      refine ga_bipush (nI 24) dX10_goBack_38 (by decide) ?_
      refine ga_S5 km_X10_68 kv_X10_copies (c_X10_copies (i := 25 * i) (j := 0) (N := 24) sh167 sh164 (by decide) (by omega) (by decide) (by decide) (by decide)) (gt_rc0 (by decide)) (Nat.le_of_ble_eq_true rfl) dX10_goBack_40 ?_
      generalize hw40 : gt_wr w 164 (gx_cp (w 167) (w 164) (25 * i) 0 24) = w_40
      refine ga_aload_n 0 dX10_goBack_43 rfl ?_
      refine ga_aload_n 0 dX10_goBack_44 rfl ?_
      refine ga_get kf_X10_25 (sh161 _) rfl dX10_goBack_45 ?_
      refine ga_bipush (nI 25) dX10_goBack_48 (by decide) ?_
      refine ga_iload_n 1 dX10_goBack_50 rfl ?_
      refine ga_imul dX10_goBack_51 ?_
      refine ga_bipush (nI 24) dX10_goBack_52 (by decide) ?_
      refine ga_iadd dX10_goBack_54 ?_
      refine ge_ialdE sh167 (k := 25 * i + 24) (gt_ixe (show nI 25 * nI i + nI 24 = nI (25 * i + 24) by rw [pk_mul, nI_add]) (by omega) (by decide)) (show w_40 167 (25 * i + 24) = nI (im i).2.2 by rw [← hw40, gt_wr_ne _ _ (by decide)]; exact hii.1) dX10_goBack_55 ?_
      refine ga_i2l dX10_goBack_56 ?_
      refine gw_long (b := (im i).2.2) 8 kp_X10_237 (sh161 _) (sh161_8 rfl) rfl rfl (Nat.le_of_ble_eq_true rfl) dX10_goBack_57 (fun w_57 o_57 e_57 => ?_)
      refine ga_aload_n 0 dX10_goBack_60 rfl ?_
      refine ga_iconst (nI 0) dX10_goBack_61 (by decide) ?_
      refine gw_put 5 kp_X10_72 (sh161 _) (sh161 _) rfl rfl (Nat.le_of_ble_eq_true rfl) dX10_goBack_62 (fun w_62 o_62 e_62 => ?_)
      refine ga_iconst (nI 1) dX10_goBack_65 (by decide) ?_
      exact gd_iret dX10_goBack_66 ⟨gv (by unfold aBack; rw [if_neg c_7, if_neg hz]), (by
        rw [nBack_g (fun q => q.elim c_7 hz), ei]
        have hV1 : gx_ms (w_40 164) K (im i).2.1.1 (im i).2.1.2 := gx_ms_eq kw (fun q hq => by
          rw [← hw40, gt_wr_eq]
          have h9 := gx_cp_in (f := w 167) (g := w 164) (i := 25 * i) (j := 0) hq
          rw [Nat.zero_add] at h9
          rw [h9]) (hii.2.2 h1)
        have hX1 := gx_M_now hX (fun b hb => by rw [← hw40, gt_wr_ne _ _ hb]) hV1
        have hX2 := gx_M_seed hX1 o_57 (fun q hq => by rw [e_57, upd_ne _ _ hq]) (by rw [e_57, upd_eq])
        exact gx_M_forget hX2 o_62 (fun q hq => by rw [e_62, upd_ne _ _ hq]) (by rw [e_62, upd_eq])), fun a ha => by rw [o_62 a (by omega), o_57 a (by omega), ← hw40, gt_wr_ne _ _ (by omega)]⟩
    · have hz : (im (nI i).toNatClampNeg).1 = 0 := ei.symm ▸ (nI_eq (by omega) (by decide)).mp (c_19.trans nI_0.symm)
      refine ga_ldc kc_X10_221 dX10_goBack_22 ?_
      exact gd_iret dX10_goBack_24 ⟨gv (by unfold aBack; rw [if_neg c_7, if_pos hz]), (by rw [nBack_k (Or.inr hz)]; exact hX), fun _ _ => rfl⟩
  · refine ga_ldc kc_X10_191 dX10_goBack_10 ?_
    exact gd_iret dX10_goBack_12 ⟨gv (by unfold aBack; rw [if_pos c_7]), (by rw [nBack_k (Or.inl c_7)]; exact hX), fun _ _ => rfl⟩
