/-- the first t shifted by a state -/
def gx_shf (f : Nat → Int32) (t : Nat) : Nat → Int32 := fun q => if q < t then f (q + 24) else f q
theorem gx_shf_0 (f : Nat → Int32) : gx_shf f 0 = f := by
  funext q
  exact if_neg (Nat.not_lt_zero q)
theorem gx_shf_s (f : Nat → Int32) (t : Nat) : upd (gx_shf f t) t (f (t + 24)) = gx_shf f (t + 1) := by
  funext q
  unfold upd gx_shf
  by_cases e : q = t
  · rw [if_pos e, if_pos (by omega), e]
  · rw [if_neg e]
    by_cases e2 : q < t
    · rw [if_pos e2, if_pos (by omega)]
    · rw [if_neg e2, if_neg (by omega)]
theorem gx_shf_ge {f : Nat → Int32} {t q : Nat} (h : t ≤ q) : gx_shf f t q = f q := if_neg (by omega)
theorem gx_shf_lt {f : Nat → Int32} {t q : Nat} (h : q < t) : gx_shf f t q = f (q + 24) := if_pos h
set_option maxRecDepth 100000 in
set_option maxHeartbeats 4000000 in
theorem c_X10_remember {l : Launch} {G : gt_G} {n : Nat} {w : gt_W} {cnt : Nat} (h5 : w 161 5 = nI cnt) (hcnt : cnt ≤ 16) : gt_D l G yX10_remember cX10_remember 2 none 2 n [.ref 161] w (fun r w' => r = none ∧ (∀ b, b ≠ 161 → b ≠ 166 → w' b = w b) ∧ (∀ q, q ≠ 5 → w' 161 q = w 161 q) ∧ w' 161 5 = nI (min 16 (cnt + 1)) ∧ ∀ k q, k < min 16 (cnt + 1) → q < 24 → w' 166 (24 * k + q) = if cnt < 16 then (if k = cnt then w 164 q else w 166 (24 * k + q)) else (if k = 15 then w 164 q else w 166 (24 * (k + 1) + q))) := by
  refine gt_D_of (own := RX10) (nm := "remember") rfl rfl (by decide +kernel) (Nat.le_of_ble_eq_true rfl) ?_
  show gt_A _ _ _ _ _ _ _ _ _ _ _ [(0, .ref 161)] _ _
  refine ga_aload_n 0 dX10_remember_0 rfl ?_
  refine ga_get kf_X10_72 (sh161 _) (gv h5) dX10_remember_1 ?_
  refine ga_bipush (nI 16) dX10_remember_4 (by decide) ?_
  refine ga_icmp_ne 49 dX10_remember_6 (by decide) (fun c_6 => ?_) (fun c_6 => ?_)
  · have hc : cnt < 16 := by
      rcases Nat.lt_or_ge cnt 16 with q | q
      · exact q
      · exact absurd (by rw [show cnt = 16 by omega]) c_6
    refine ga_aload_n 0 dX10_remember_49 rfl ?_
    refine ga_get kf_X10_16 (sh161 _) rfl dX10_remember_50 ?_
    refine ga_iconst (nI 0) dX10_remember_53 (by decide) ?_
    refine ga_aload_n 0 dX10_remember_54 rfl ?_
    refine ga_get kf_X10_22 (sh161 _) rfl dX10_remember_55 ?_
    refine ga_bipush (nI 24) dX10_remember_58 (by decide) ?_
    refine ga_aload_n 0 dX10_remember_60 rfl ?_
    refine ga_get kf_X10_72 (sh161 _) (gv h5) dX10_remember_61 ?_
    refine ga_imul dX10_remember_64 ?_
    refine ga_top (nI (24 * cnt)) (pk_mul 24 cnt) ?_
    refine ga_bipush (nI 24) dX10_remember_65 (by decide) ?_
    refine ga_S5 km_X10_68 kv_X10_copies (c_X10_copies (i := 0) (j := 24 * cnt) (N := 24) sh164 sh166 (by decide) (by decide) (by omega) (by decide) (by decide)) (gt_rc0 (by decide)) (Nat.le_of_ble_eq_true rfl) dX10_remember_67 ?_
    generalize hw67 : gt_wr w 166 (gx_cp (w 164) (w 166) 0 (24 * cnt) 24) = w_67
    refine ga_aload_n 0 dX10_remember_70 rfl ?_
    refine ga_dup dX10_remember_71 rfl ?_
    refine ga_get kf_X10_72 (sh161 _) (gv (show w_67 161 5 = nI cnt by rw [← hw67, gt_wr_ne _ _ (by decide)]; exact h5)) dX10_remember_72 ?_
    refine ga_iconst (nI 1) dX10_remember_75 (by decide) ?_
    refine ga_iadd dX10_remember_76 ?_
    refine gw_put 5 kp_X10_72 (sh161 _) (sh161 _) rfl rfl (Nat.le_of_ble_eq_true rfl) dX10_remember_77 (fun w_77 o_77 e_77 => ?_)
    exact gd_vret dX10_remember_80 ⟨rfl, fun b h1 h2 => by rw [o_77 b h1, ← hw67, gt_wr_ne _ _ h2], fun q hq => by rw [e_77, upd_ne _ _ hq, ← hw67, gt_wr_ne _ _ (by decide)], by rw [e_77, upd_eq, nI_add, Nat.min_eq_right (by omega)], fun k q hk hq => by
      have hr : w_77 166 = gx_cp (w 164) (w 166) 0 (24 * cnt) 24 := by rw [o_77 166 (by decide), ← hw67, gt_wr_eq]
      rw [hr, if_pos hc]
      by_cases e : k = cnt
      · rw [if_pos e, e, gx_cp_in hq, Nat.zero_add]
      · rw [if_neg e, gx_cp_out (by omega)]⟩
  · have hc : cnt = 16 := (nI_eq (by omega) (by decide)).mp c_6
    refine ga_iconst (nI 0) dX10_remember_9 (by decide) ?_
    refine gs_istore_n [(0, _), (1, _)] dX10_remember_10 (by decide) rfl rfl ?_
    have loop : ∀ j t, t + j = 360 → gt_A l G RX10 "remember" cX10_remember 2 none (gt_rm 2 0 0) (gt_ZD G n (fun r w' => r = none ∧ (∀ b, b ≠ 161 → b ≠ 166 → w' b = w b) ∧ (∀ q, q ≠ 5 → w' 161 q = w 161 q) ∧ w' 161 5 = nI (min 16 (cnt + 1)) ∧ ∀ k q, k < min 16 (cnt + 1) → q < 24 → w' 166 (24 * k + q) = if cnt < 16 then (if k = cnt then w 164 q else w 166 (24 * k + q)) else (if k = 15 then w 164 q else w 166 (24 * (k + 1) + q)))) (n, 0, 0) 11 [(0, .ref 161), (1, .int (nI t))] [] (gt_enc (gt_wr w 166 (gx_shf (w 166) t))) := by
      intro j
      induction j with
      | zero =>
        intro t ht
        have et : t = 360 := by omega
        rw [et]
        refine ga_iload_n 1 dX10_remember_11 rfl ?_
        refine ga_sipush (nI 360) dX10_remember_12 (by decide) ?_
        refine ga_icmp_ge 39 dX10_remember_15 (by decide) (fun c_15 => ?_) (fun c_15 => absurd (nI_le (by omega) (by omega)) c_15)
        refine ga_aload_n 0 dX10_remember_39 rfl ?_
        refine ga_dup dX10_remember_40 rfl ?_
        refine ga_get kf_X10_72 (sh161 _) (gv (show gt_wr w 166 (gx_shf (w 166) 360) 161 5 = nI cnt by rw [gt_wr_ne _ _ (by decide)]; exact h5)) dX10_remember_41 ?_
        refine ga_iconst (nI 1) dX10_remember_44 (by decide) ?_
        refine ga_isub dX10_remember_45 ?_
        refine gw_put 5 kp_X10_72 (sh161 _) (sh161 _) rfl rfl (Nat.le_of_ble_eq_true rfl) dX10_remember_46 (fun w_46 o_46 e_46 => ?_)
        have h15 : nI cnt - nI 1 = nI 15 := by rw [hc]; decide
        refine ga_aload_n 0 dX10_remember_49 rfl ?_
        refine ga_get kf_X10_16 (sh161 _) rfl dX10_remember_50 ?_
        refine ga_iconst (nI 0) dX10_remember_53 (by decide) ?_
        refine ga_aload_n 0 dX10_remember_54 rfl ?_
        refine ga_get kf_X10_22 (sh161 _) rfl dX10_remember_55 ?_
        refine ga_bipush (nI 24) dX10_remember_58 (by decide) ?_
        refine ga_aload_n 0 dX10_remember_60 rfl ?_
        refine ga_get kf_X10_72 (sh161 _) (gv (show w_46 161 5 = nI 15 by rw [e_46, upd_eq, h15])) dX10_remember_61 ?_
        refine ga_imul dX10_remember_64 ?_
        refine ga_top (nI 360) (by decide) ?_
        refine ga_bipush (nI 24) dX10_remember_65 (by decide) ?_
        refine ga_S5 km_X10_68 kv_X10_copies (c_X10_copies (i := 0) (j := 360) (N := 24) sh164 sh166 (by decide) (by decide) (by decide) (by decide) (by decide)) (gt_rc0 (by decide)) (Nat.le_of_ble_eq_true rfl) dX10_remember_67 ?_
        generalize hw67 : gt_wr w_46 166 (gx_cp (w_46 164) (w_46 166) 0 360 24) = w_67
        refine ga_aload_n 0 dX10_remember_70 rfl ?_
        refine ga_dup dX10_remember_71 rfl ?_
        refine ga_get kf_X10_72 (sh161 _) (gv (show w_67 161 5 = nI 15 by rw [← hw67, gt_wr_ne _ _ (by decide), e_46, upd_eq, h15])) dX10_remember_72 ?_
        refine ga_iconst (nI 1) dX10_remember_75 (by decide) ?_
        refine ga_iadd dX10_remember_76 ?_
        refine gw_put 5 kp_X10_72 (sh161 _) (sh161 _) rfl rfl (Nat.le_of_ble_eq_true rfl) dX10_remember_77 (fun w_77 o_77 e_77 => ?_)
        exact gd_vret dX10_remember_80 ⟨rfl, fun b h1 h2 => by rw [o_77 b h1, ← hw67, gt_wr_ne _ _ h2, o_46 b h1, gt_wr_ne _ _ h2], fun q hq => by rw [e_77, upd_ne _ _ hq, ← hw67, gt_wr_ne _ _ (by decide), e_46, upd_ne _ _ hq, gt_wr_ne _ _ (by decide)], by rw [e_77, upd_eq, hc]; decide, fun k q hk hq => by
        have hr : w_77 166 = gx_cp (w 164) (gx_shf (w 166) 360) 0 360 24 := by rw [o_77 166 (by decide), ← hw67, gt_wr_eq, o_46 164 (by decide), o_46 166 (by decide), gt_wr_ne _ _ (by decide), gt_wr_eq]
        rw [hr, if_neg (by omega)]
        by_cases e : k = 15
        · rw [if_pos e, e, gx_cp_in (j := 360) hq, Nat.zero_add]
        · rw [if_neg e, gx_cp_out (by omega), gx_shf_lt (by omega)]
          congr 1
          omega⟩
      | succ j ih =>
        intro t ht
        refine ga_iload_n 1 dX10_remember_11 rfl ?_
        refine ga_sipush (nI 360) dX10_remember_12 (by decide) ?_
        refine ga_icmp_ge 39 dX10_remember_15 (by decide) (fun c_15 => absurd c_15 (nI_ge (by omega) (by omega))) (fun c_15 => ?_)
        refine ga_aload_n 0 dX10_remember_18 rfl ?_
        refine ga_get kf_X10_22 (sh161 _) rfl dX10_remember_19 ?_
        refine ga_iload_n 1 dX10_remember_22 rfl ?_
        refine ga_aload_n 0 dX10_remember_23 rfl ?_
        refine ga_get kf_X10_22 (sh161 _) rfl dX10_remember_24 ?_
        refine ga_iload_n 1 dX10_remember_27 rfl ?_
        refine ga_bipush (nI 24) dX10_remember_28 (by decide) ?_
        refine ga_iadd dX10_remember_30 ?_
        refine ge_ialdE sh166 (k := t + 24) (gt_ixe (nI_add t 24) (by omega) (by decide)) (show gt_wr w 166 (gx_shf (w 166) t) 166 (t + 24) = w 166 (t + 24) by rw [gt_wr_eq, gx_shf_ge (by omega)]) dX10_remember_31 ?_
        refine ge_iast sh166 (gt_ixn (by omega)) dX10_remember_32 ?_
        refine gs_iincN 1 1 [(0, _), (1, _)] dX10_remember_33 rfl (by decide) (by decide) rfl rfl ?_
        refine ga_goto 11 dX10_remember_36 (by decide) ?_
        rw [gt_wr_eq, gt_wr_wr, gx_shf_s]
        exact ih (t + 1) (by omega)
    have h9 := loop 360 0 (by omega)
    rw [gx_shf_0, gt_wr_self] at h9
    exact h9
theorem gx_M_rem {w w' : gt_W} {K V : gx_K} {m : Int32} {hs : Nat → gx_K × Int32} {cnt : Nat} {im : Nat → Nat × (gx_K × Int32) × Nat} {sd : Nat} {x : Nat → Nat} {L fp : Nat} {Q : gx_K} (h : gx_M w K V m hs cnt im sd x L fp Q) (kw : gx_KW K) (hcnt : cnt ≤ 16) (o : ∀ b, b ≠ 161 → b ≠ 166 → w' b = w b) (e : ∀ q, q ≠ 5 → w' 161 q = w 161 q) (e5 : w' 161 5 = nI (min 16 (cnt + 1))) (hp : ∀ k q, k < min 16 (cnt + 1) → q < 24 → w' 166 (24 * k + q) = if cnt < 16 then (if k = cnt then w 164 q else w 166 (24 * k + q)) else (if k = 15 then w 164 q else w 166 (24 * (k + 1) + q))) : gx_M w' K V m (gx_ph hs cnt (V, m)) (min 16 (cnt + 1)) im sd x L fp Q := by
  unfold gx_M gx_mn at h ⊢
  rw [o 162 (by decide) (by decide), o 164 (by decide) (by decide), o 167 (by decide) (by decide), o 168 (by decide) (by decide), o 169 (by decide) (by decide), o 170 (by decide) (by decide), o 171 (by decide) (by decide), o 172 (by decide) (by decide), e 8 (by decide), e 10 (by decide), e 11 (by decide), e 13 (by decide), e 15 (by decide), e 17 (by decide)]
  obtain ⟨hM, hV, ⟨h5, hq⟩, hr⟩ := h
  refine ⟨hM, hV, ⟨e5, fun k hk => ?_⟩, hr⟩
  unfold gx_ph
  by_cases hc : cnt < 16
  · rw [if_pos hc]
    by_cases ek : k = cnt
    · rw [if_pos ek]
      exact gx_ms_eq kw (fun i hi => by rw [hp k i hk hi, if_pos hc, if_pos ek]) hV
    · rw [if_neg ek]
      exact gx_ms_eq kw (fun i hi => by rw [hp k i hk hi, if_pos hc, if_neg ek]) (hq k (by omega))
  · rw [if_neg hc]
    by_cases ek : k = 15
    · rw [if_pos ek]
      exact gx_ms_eq kw (fun i hi => by rw [hp k i hk hi, if_neg hc, if_pos ek]) hV
    · rw [if_neg ek]
      exact gx_ms_eq kw (fun i hi => by rw [hp k i hk hi, if_neg hc, if_neg ek]) (hq (k + 1) (by omega))
set_option maxRecDepth 100000 in
set_option maxHeartbeats 4000000 in
theorem c_X10_sit {l : Launch} {G : gt_G} {n : Nat} {w : gt_W} {K V : gx_K} {m : Int32} {hs : Nat → gx_K × Int32} {cnt : Nat} {im : Nat → Nat × (gx_K × Int32) × Nat} {sd : Nat} {x : Nat → Nat} {L fp : Nat} {Q : gx_K} (hX : gx_M w K V m hs cnt im sd x L fp Q) (hW : gx_WF K V m hs cnt im sd x L fp Q) (a9 t9 : Int32) : gt_D l G yX10_sit cX10_sit 4 (some .int) 3 n [.ref 161, .int a9, .int t9] w (fun r w' => r = some (.int (aSit K V a9 t9)) ∧ gx_MZ w' (nSit (K, (V, m), hs, cnt, im, sd, x, L, fp, Q) a9 t9) ∧ ∀ a, a < 161 → w' a = w a) := by
  obtain ⟨hM, hV, hpast, him, hsd, htx, hfp, hQ⟩ := id hX
  obtain ⟨kw, vw, vd, hhr, hcnt, hhs, him2, hsd2, hxL, hfp2, qw⟩ := id hW
  refine gt_D_of (own := RX10) (nm := "sit") rfl rfl (by decide +kernel) (Nat.le_of_ble_eq_true rfl) ?_
  show gt_A _ _ _ _ _ _ _ _ _ _ _ [(0, .ref 161), (1, .int a9), (2, .int t9)] _ _
  refine ga_aload_n 0 dX10_sit_0 rfl ?_
  refine ga_iload_n 1 dX10_sit_1 rfl ?_
  refine ga_V1 km_X10_202 kv_X10_isPlayer (c_X10_isPlayer hM kw a9) (sh161 _) rfl rfl (gt_rc0 (by decide)) (Nat.le_of_ble_eq_true rfl) dX10_sit_2 ?_
  refine ga_if_eq 16 dX10_sit_5 (by decide) (fun c_5 => ?_) (fun c_5 => ?_)
  · have hno : gx_in a9 (nI (K 0 2)) = 0 ∨ gx_in t9 (nI (K 0 1)) = 0 := Or.inl c_5
    refine ga_ldc kc_X10_191 dX10_sit_16 ?_
    exact gd_iret dX10_sit_18 ⟨gv (by unfold aSit; rw [if_pos hno]), (by rw [nSit_k (hno.elim Or.inl (fun q => Or.inr (Or.inl q)))]; exact hX), fun _ _ => rfl⟩
  · refine ga_aload_n 0 dX10_sit_8 rfl ?_
    refine ga_iload_n 2 dX10_sit_9 rfl ?_
    refine ga_V1 km_X10_196 kv_X10_isTower (c_X10_isTower hM kw t9) (sh161 _) rfl rfl (gt_rc0 (by decide)) (Nat.le_of_ble_eq_true rfl) dX10_sit_10 ?_
    refine ga_if_ne 19 dX10_sit_13 (by decide) (fun c_13 => ?_) (fun c_13 => ?_)
    · obtain ⟨k, hk, rfl⟩ := gx_in_of (by have := kw.1; have := kw.2.1; have := kw.2.2.1; have := kw.2.2.2.1; omega) c_5
      have ek : (nI k).toNatClampNeg = k := nI_clamp (by have := kw.1; have := kw.2.1; have := kw.2.2.1; have := kw.2.2.2.1; omega)
      obtain ⟨u, hu, rfl⟩ := gx_in_of (by have := kw.1; have := kw.2.1; have := kw.2.2.1; have := kw.2.2.2.1; omega) c_13
      have eu : (nI u).toNatClampNeg = u := nI_clamp (by have := kw.1; have := kw.2.1; have := kw.2.2.1; have := kw.2.2.2.1; omega)
      refine ga_aload_n 0 dX10_sit_19 rfl ?_
      refine ga_aload_n 0 dX10_sit_20 rfl ?_
      refine ga_get kf_X10_16 (sh161 _) rfl dX10_sit_21 ?_
      refine ga_iload_n 2 dX10_sit_24 rfl ?_
      refine ga_V2 km_X10_199 kv_X10_sitterOn (c_X10_sitterOn hM kw as164 hV vw vd (by have := kw.2.1; omega)) (sh161 _) rfl rfl (gt_rc0 (by decide)) (Nat.le_of_ble_eq_true rfl) dX10_sit_25 ?_
      refine ga_iconst ((-1)) dX10_sit_28 (by decide) ?_
      refine ga_icmp_eq 35 dX10_sit_29 (by decide) (fun c_29 => ?_) (fun c_29 => ?_)
      · have hfree : gx_free K V (nI u).toNatClampNeg := eu.symm ▸ (gx_first_free kw u).mp c_29
        refine ga_aload_n 0 dX10_sit_35 rfl ?_
        refine gd_V0 km_X10_225 kv_X10_remember (c_X10_remember hpast.1 hcnt) (sh161 _) rfl rfl (gt_rc0 (by decide)) (Nat.le_of_ble_eq_true rfl) dX10_sit_36 (fun r_36 w_36 q_36 => ?_)
        obtain ⟨rfl, orm, erm, e5, hp5⟩ := q_36
        have hX1 := gx_M_rem hX kw hcnt orm erm e5 hp5
        have hM := hX1.1
        have hV := hX1.2.1
        have hm161 : ∀ a, a < 161 → w_36 a = w a := fun a ha => orm a (by omega) (by omega)
        refine ga_aload_n 0 dX10_sit_39 rfl ?_
        refine ga_get kf_X10_16 (sh161 _) rfl dX10_sit_40 ?_
        refine ga_bipush (nI 12) dX10_sit_43 (by decide) ?_
        refine ga_iload_n 1 dX10_sit_45 rfl ?_
        refine ga_iadd dX10_sit_46 ?_
        refine gm_S2 sh164 hV kw hk dX10_sit_47 ?_
        refine gs_istore_n [(0, _), (1, _), (2, _), (3, _)] dX10_sit_48 (by decide) rfl rfl ?_
        refine ga_aload_n 0 dX10_sit_49 rfl ?_
        refine ga_get kf_X10_16 (sh161 _) rfl dX10_sit_50 ?_
        refine ga_bipush (nI 12) dX10_sit_53 (by decide) ?_
        refine ga_iload_n 1 dX10_sit_55 rfl ?_
        refine ga_iadd dX10_sit_56 ?_
        refine ga_iload_n 2 dX10_sit_57 rfl ?_
        refine ga_top (gx_seat (u + 1)) (gx_seat_s u).symm ?_
        refine gmw_S2 sh164 hV kw hk dX10_sit_58 (fun w_58 o_58 hV => ?_)
        refine ga_iload_n 3 dX10_sit_59 rfl ?_
        exact gd_iret dX10_sit_60 ⟨gv (by unfold aSit; rw [if_neg (fun q => q.elim c_5 c_13), if_pos hfree, ek]), (by rw [nSit_g (fun q => q.elim c_5 (fun q => q.elim c_13 (fun q => q hfree)))]; rw [ek, eu]; exact gx_M_now hX1 o_58 hV), fun a ha => (o_58 a (by omega)).trans (hm161 a ha)⟩
      · have hfree : ¬ gx_free K V (nI u).toNatClampNeg := fun q => c_29 ((gx_first_free kw u).mpr (eu ▸ q))
        refine ga_ldc kc_X10_221 dX10_sit_32 ?_
        exact gd_iret dX10_sit_34 ⟨gv (by unfold aSit; rw [if_neg (fun q => q.elim c_5 c_13), if_neg hfree]), (by rw [nSit_k (Or.inr (Or.inr hfree))]; exact hX), fun _ _ => rfl⟩
    · have hno : gx_in a9 (nI (K 0 2)) = 0 ∨ gx_in t9 (nI (K 0 1)) = 0 := Or.inr c_13
      refine ga_ldc kc_X10_191 dX10_sit_16 ?_
      exact gd_iret dX10_sit_18 ⟨gv (by unfold aSit; rw [if_pos hno]), (by rw [nSit_k (hno.elim Or.inl (fun q => Or.inr (Or.inl q)))]; exact hX), fun _ _ => rfl⟩
set_option maxRecDepth 100000 in
set_option maxHeartbeats 4000000 in
theorem c_X10_rest {l : Launch} {G : gt_G} {n : Nat} {w : gt_W} {K V : gx_K} {m : Int32} {hs : Nat → gx_K × Int32} {cnt : Nat} {im : Nat → Nat × (gx_K × Int32) × Nat} {sd : Nat} {x : Nat → Nat} {L fp : Nat} {Q : gx_K} (hX : gx_M w K V m hs cnt im sd x L fp Q) (hW : gx_WF K V m hs cnt im sd x L fp Q) (a9 : Int32) : gt_D l G yX10_rest cX10_rest 3 (some .int) 3 n [.ref 161, .int a9] w (fun r w' => r = some (.int (aRest K V a9)) ∧ gx_MZ w' (nRest (K, (V, m), hs, cnt, im, sd, x, L, fp, Q) a9) ∧ ∀ a, a < 161 → w' a = w a) := by
  obtain ⟨hM, hV, hpast, him, hsd, htx, hfp, hQ⟩ := id hX
  obtain ⟨kw, vw, vd, hhr, hcnt, hhs, him2, hsd2, hxL, hfp2, qw⟩ := id hW
  refine gt_D_of (own := RX10) (nm := "rest") rfl rfl (by decide +kernel) (Nat.le_of_ble_eq_true rfl) ?_
  show gt_A _ _ _ _ _ _ _ _ _ _ _ [(0, .ref 161), (1, .int a9)] _ _
  refine ga_aload_n 0 dX10_rest_0 rfl ?_
  refine ga_iload_n 1 dX10_rest_1 rfl ?_
  refine ga_V1 km_X10_202 kv_X10_isPlayer (c_X10_isPlayer hM kw a9) (sh161 _) rfl rfl (gt_rc0 (by decide)) (Nat.le_of_ble_eq_true rfl) dX10_rest_2 ?_
  refine ga_if_ne 11 dX10_rest_5 (by decide) (fun c_5 => ?_) (fun c_5 => ?_)
  · obtain ⟨k, hk, rfl⟩ := gx_in_of (by have := kw.1; have := kw.2.1; have := kw.2.2.1; have := kw.2.2.2.1; omega) c_5
    have ek : (nI k).toNatClampNeg = k := nI_clamp (by have := kw.1; have := kw.2.1; have := kw.2.2.1; have := kw.2.2.2.1; omega)
    refine ga_aload_n 0 dX10_rest_11 rfl ?_
    refine ga_get kf_X10_16 (sh161 _) rfl dX10_rest_12 ?_
    refine ga_bipush (nI 12) dX10_rest_15 (by decide) ?_
    refine ga_iload_n 1 dX10_rest_17 rfl ?_
    refine ga_iadd dX10_rest_18 ?_
    refine gm_S2 sh164 hV kw hk dX10_rest_19 ?_
    refine ga_iconst ((-1)) dX10_rest_20 (by decide) ?_
    refine ga_icmp_ne 27 dX10_rest_21 (by decide) (fun c_21 => ?_) (fun c_21 => ?_)
    · have hz : ¬ V 2 (nI k).toNatClampNeg = 0 := fun q => c_21 ((gx_seat_m1 (by have := vw.2.2.1 k hk; have := kw.2.1; omega)).mpr (ek ▸ q))
      refine ga_aload_n 0 dX10_rest_27 rfl ?_
      refine gd_V0 km_X10_225 kv_X10_remember (c_X10_remember hpast.1 hcnt) (sh161 _) rfl rfl (gt_rc0 (by decide)) (Nat.le_of_ble_eq_true rfl) dX10_rest_28 (fun r_28 w_28 q_28 => ?_)
      obtain ⟨rfl, orm, erm, e5, hp5⟩ := q_28
      have hX1 := gx_M_rem hX kw hcnt orm erm e5 hp5
      have hM := hX1.1
      have hV := hX1.2.1
      have hm161 : ∀ a, a < 161 → w_28 a = w a := fun a ha => orm a (by omega) (by omega)
      refine ga_aload_n 0 dX10_rest_31 rfl ?_
      refine ga_get kf_X10_16 (sh161 _) rfl dX10_rest_32 ?_
      refine ga_bipush (nI 12) dX10_rest_35 (by decide) ?_
      refine ga_iload_n 1 dX10_rest_37 rfl ?_
      refine ga_iadd dX10_rest_38 ?_
      refine gm_S2 sh164 hV kw hk dX10_rest_39 ?_
      refine gs_istore_n [(0, _), (1, _), (2, _)] dX10_rest_40 (by decide) rfl rfl ?_
      refine ga_aload_n 0 dX10_rest_41 rfl ?_
      refine ga_get kf_X10_16 (sh161 _) rfl dX10_rest_42 ?_
      refine ga_bipush (nI 12) dX10_rest_45 (by decide) ?_
      refine ga_iload_n 1 dX10_rest_47 rfl ?_
      refine ga_iadd dX10_rest_48 ?_
      refine ga_iconst ((-1)) dX10_rest_49 (by decide) ?_
      refine ga_top (gx_seat 0) gx_seat_0.symm ?_
      refine gmw_S2 sh164 hV kw hk dX10_rest_50 (fun w_50 o_50 hV => ?_)
      refine ga_iload_n 2 dX10_rest_51 rfl ?_
      exact gd_iret dX10_rest_52 ⟨gv (by unfold aRest; rw [if_neg c_5, if_neg hz, ek]), (by rw [nRest_g (fun q => q.elim c_5 hz)]; rw [ek]; exact gx_M_now hX1 o_50 hV), fun a ha => (o_50 a (by omega)).trans (hm161 a ha)⟩
    · have hz : V 2 (nI k).toNatClampNeg = 0 := ek.symm ▸ (gx_seat_m1 (by have := vw.2.2.1 k hk; have := kw.2.1; omega)).mp c_21
      refine ga_ldc kc_X10_221 dX10_rest_24 ?_
      exact gd_iret dX10_rest_26 ⟨gv (by unfold aRest; rw [if_neg c_5, if_pos hz]), (by rw [nRest_k (Or.inr hz)]; exact hX), fun _ _ => rfl⟩
  · refine ga_ldc kc_X10_191 dX10_rest_8 ?_
    exact gd_iret dX10_rest_10 ⟨gv (by unfold aRest; rw [if_pos c_5]), (by rw [nRest_k (Or.inl c_5)]; exact hX), fun _ _ => rfl⟩
theorem gx_slpB_bit (m : Int32) {k : Nat} (hk : k < 32) : (m >>> (nI k &&& 31)) &&& nI 1 = gx_slpB m (nI k) := by
  unfold gx_slpB
  by_cases e : (m >>> (nI k &&& 31)) &&& nI 1 = nI 1
  · rw [if_pos e, e]
  · rw [if_neg e]
    rw [gx_bit1 m hk] at e
    rw [nI_0, gx_bit0 m hk]
    simpa using e
set_option maxRecDepth 100000 in
set_option maxHeartbeats 4000000 in
theorem c_X10_sleep {l : Launch} {G : gt_G} {n : Nat} {w : gt_W} {K V : gx_K} {m : Int32} {hs : Nat → gx_K × Int32} {cnt : Nat} {im : Nat → Nat × (gx_K × Int32) × Nat} {sd : Nat} {x : Nat → Nat} {L fp : Nat} {Q : gx_K} (hX : gx_M w K V m hs cnt im sd x L fp Q) (hW : gx_WF K V m hs cnt im sd x L fp Q) (a9 b9 : Int32) : gt_D l G yX10_sleep cX10_sleep 4 (some .int) 3 n [.ref 161, .int a9, .int b9] w (fun r w' => r = some (.int (aSleep K m a9)) ∧ gx_MZ w' (nSleep (K, (V, m), hs, cnt, im, sd, x, L, fp, Q) a9 b9) ∧ ∀ a, a < 161 → w' a = w a) := by
  obtain ⟨hM, hV, hpast, him, hsd, htx, hfp, hQ⟩ := id hX
  obtain ⟨kw, vw, vd, hhr, hcnt, hhs, him2, hsd2, hxL, hfp2, qw⟩ := id hW
  refine gt_D_of (own := RX10) (nm := "sleep") rfl rfl (by decide +kernel) (Nat.le_of_ble_eq_true rfl) ?_
  show gt_A _ _ _ _ _ _ _ _ _ _ _ [(0, .ref 161), (1, .int a9), (2, .int b9)] _ _
  refine ga_aload_n 0 dX10_sleep_0 rfl ?_
  refine ga_iload_n 1 dX10_sleep_1 rfl ?_
  refine ga_V1 km_X10_202 kv_X10_isPlayer (c_X10_isPlayer hM kw a9) (sh161 _) rfl rfl (gt_rc0 (by decide)) (Nat.le_of_ble_eq_true rfl) dX10_sleep_2 ?_
  refine ga_if_ne 11 dX10_sleep_5 (by decide) (fun c_5 => ?_) (fun c_5 => ?_)
  · obtain ⟨k, hk, rfl⟩ := gx_in_of (by have := kw.1; have := kw.2.1; have := kw.2.2.1; have := kw.2.2.2.1; omega) c_5
    have ek : (nI k).toNatClampNeg = k := nI_clamp (by have := kw.1; have := kw.2.1; have := kw.2.2.1; have := kw.2.2.2.1; omega)
    refine ga_aload_n 0 dX10_sleep_11 rfl ?_
    refine gd_V0 km_X10_225 kv_X10_remember (c_X10_remember hpast.1 hcnt) (sh161 _) rfl rfl (gt_rc0 (by decide)) (Nat.le_of_ble_eq_true rfl) dX10_sleep_12 (fun r_12 w_12 q_12 => ?_)
    obtain ⟨rfl, orm, erm, e5, hp5⟩ := q_12
    have hX1 := gx_M_rem hX kw hcnt orm erm e5 hp5
    have hM := hX1.1
    have hV := hX1.2.1
    have hm161 : ∀ a, a < 161 → w_12 a = w a := fun a ha => orm a (by omega) (by omega)
    refine ga_aload_n 0 dX10_sleep_15 rfl ?_
    refine ga_get kf_X10_16 (sh161 _) rfl dX10_sleep_16 ?_
    refine ga_bipush (nI 18) dX10_sleep_19 (by decide) ?_
    refine gm_sm sh164 hV dX10_sleep_21 ?_
    refine ga_iload_n 1 dX10_sleep_22 rfl ?_
    refine ga_ishr dX10_sleep_23 ?_
    refine ga_iconst (nI 1) dX10_sleep_24 (by decide) ?_
    refine ga_iand dX10_sleep_25 ?_
    refine gs_istore_n [(0, _), (1, _), (2, _), (3, _)] dX10_sleep_26 (by decide) rfl rfl ?_
    refine ga_aload_n 0 dX10_sleep_27 rfl ?_
    refine ga_iload_n 1 dX10_sleep_28 rfl ?_
    refine ga_iload_n 2 dX10_sleep_29 rfl ?_
    refine gd_V2 km_X10_231 kv_X10_sleeps (c_X10_sleeps kw hV _ _) (sh161 _) rfl rfl (gt_rc0 (by decide)) (Nat.le_of_ble_eq_true rfl) dX10_sleep_30 (fun r_30 w_30 q_30 => ?_)
    obtain ⟨rfl, o30, hV⟩ := q_30
    refine ga_iload_n 3 dX10_sleep_33 rfl ?_
    exact gd_iret dX10_sleep_34 ⟨gv (by unfold aSleep; rw [if_neg c_5, gx_slpB_bit m (by have := kw.2.2.1; omega)]), (by rw [nSleep_g (c_5)]; exact gx_M_now hX1 o30 hV), fun a ha => (o30 a (by omega)).trans (hm161 a ha)⟩
  · refine ga_ldc kc_X10_191 dX10_sleep_8 ?_
    exact gd_iret dX10_sleep_10 ⟨gv (by unfold aSleep; rw [if_pos c_5]), (by rw [nSleep_k (c_5)]; exact hX), fun _ _ => rfl⟩
set_option maxRecDepth 100000 in
set_option maxHeartbeats 4000000 in
theorem c_X10_turn {l : Launch} {G : gt_G} {n : Nat} {w : gt_W} {K V : gx_K} {m : Int32} {hs : Nat → gx_K × Int32} {cnt : Nat} {im : Nat → Nat × (gx_K × Int32) × Nat} {sd : Nat} {x : Nat → Nat} {L fp : Nat} {Q : gx_K} (hX : gx_M w K V m hs cnt im sd x L fp Q) (hW : gx_WF K V m hs cnt im sd x L fp Q) (a9 v9 : Int32) : gt_D l G yX10_turn cX10_turn 4 (some .int) 3 n [.ref 161, .int a9, .int v9] w (fun r w' => r = some (.int (aTurn K V a9 v9)) ∧ gx_MZ w' (nTurn (K, (V, m), hs, cnt, im, sd, x, L, fp, Q) a9 v9) ∧ ∀ a, a < 161 → w' a = w a) := by
  obtain ⟨hM, hV, hpast, him, hsd, htx, hfp, hQ⟩ := id hX
  obtain ⟨kw, vw, vd, hhr, hcnt, hhs, him2, hsd2, hxL, hfp2, qw⟩ := id hW
  refine gt_D_of (own := RX10) (nm := "turn") rfl rfl (by decide +kernel) (Nat.le_of_ble_eq_true rfl) ?_
  show gt_A _ _ _ _ _ _ _ _ _ _ _ [(0, .ref 161), (1, .int a9), (2, .int v9)] _ _
  refine ga_aload_n 0 dX10_turn_0 rfl ?_
  refine ga_iload_n 1 dX10_turn_1 rfl ?_
  refine ga_V1 km_X10_196 kv_X10_isTower (c_X10_isTower hM kw a9) (sh161 _) rfl rfl (gt_rc0 (by decide)) (Nat.le_of_ble_eq_true rfl) dX10_turn_2 ?_
  refine ga_if_ne 11 dX10_turn_5 (by decide) (fun c_5 => ?_) (fun c_5 => ?_)
  · obtain ⟨k, hk, rfl⟩ := gx_in_of (by have := kw.1; have := kw.2.1; have := kw.2.2.1; have := kw.2.2.2.1; omega) c_5
    have ek : (nI k).toNatClampNeg = k := nI_clamp (by have := kw.1; have := kw.2.1; have := kw.2.2.1; have := kw.2.2.2.1; omega)
    refine ga_iload_n 2 dX10_turn_11 rfl ?_
    refine ga_i2l dX10_turn_12 ?_
    refine ga_lconst 0 dX10_turn_13 (by decide) ?_
    refine ga_ldc2_w kc_X10_235 dX10_turn_14 ?_
    refine ga_S3 km_X10_64 kv_X10_in (c_X10_in (x := v9) (a := nI 0) (b := nI 99) rfl (by decide) (by decide)) (gt_rc0 (by decide)) (Nat.le_of_ble_eq_true rfl) dX10_turn_17 ?_
    refine ga_if_ne 26 dX10_turn_20 (by decide) (fun c_20 => ?_) (fun c_20 => ?_)
    · obtain ⟨u, -, hu, rfl⟩ := gx_wi_of (by decide) (by decide) c_20
      have eu : (nI u).toNatClampNeg = u := nI_clamp (by omega)
      refine ga_aload_n 0 dX10_turn_26 rfl ?_
      refine gd_V0 km_X10_225 kv_X10_remember (c_X10_remember hpast.1 hcnt) (sh161 _) rfl rfl (gt_rc0 (by decide)) (Nat.le_of_ble_eq_true rfl) dX10_turn_27 (fun r_27 w_27 q_27 => ?_)
      obtain ⟨rfl, orm, erm, e5, hp5⟩ := q_27
      have hX1 := gx_M_rem hX kw hcnt orm erm e5 hp5
      have hM := hX1.1
      have hV := hX1.2.1
      have hm161 : ∀ a, a < 161 → w_27 a = w a := fun a ha => orm a (by omega) (by omega)
      refine ga_aload_n 0 dX10_turn_30 rfl ?_
      refine ga_get kf_X10_16 (sh161 _) rfl dX10_turn_31 ?_
      refine ga_iconst (nI 0) dX10_turn_34 (by decide) ?_
      refine ga_iload_n 1 dX10_turn_35 rfl ?_
      refine ga_iadd dX10_turn_36 ?_
      refine gm_S1 sh164 hV kw hk dX10_turn_37 ?_
      refine gs_istore_n [(0, _), (1, _), (2, _), (3, _)] dX10_turn_38 (by decide) rfl rfl ?_
      refine ga_aload_n 0 dX10_turn_39 rfl ?_
      refine ga_get kf_X10_16 (sh161 _) rfl dX10_turn_40 ?_
      refine ga_iconst (nI 0) dX10_turn_43 (by decide) ?_
      refine ga_iload_n 1 dX10_turn_44 rfl ?_
      refine ga_iadd dX10_turn_45 ?_
      refine ga_iload_n 2 dX10_turn_46 rfl ?_
      refine gmw_S1 sh164 hV kw hk dX10_turn_47 (fun w_47 o_47 hV => ?_)
      refine ga_iload_n 3 dX10_turn_48 rfl ?_
      exact gd_iret dX10_turn_49 ⟨gv (by unfold aTurn; rw [if_neg c_5, if_neg c_20, ek]), (by rw [nTurn_g (fun q => q.elim c_5 c_20)]; rw [ek, eu]; exact gx_M_now hX1 o_47 hV), fun a ha => (o_47 a (by omega)).trans (hm161 a ha)⟩
    · refine ga_ldc kc_X10_86 dX10_turn_23 ?_
      exact gd_iret dX10_turn_25 ⟨gv (by unfold aTurn; rw [if_neg c_5, if_pos c_20]), (by rw [nTurn_k (Or.inr c_20)]; exact hX), fun _ _ => rfl⟩
  · refine ga_ldc kc_X10_191 dX10_turn_8 ?_
    exact gd_iret dX10_turn_10 ⟨gv (by unfold aTurn; rw [if_pos c_5]), (by rw [nTurn_k (Or.inl c_5)]; exact hX), fun _ _ => rfl⟩
set_option maxRecDepth 100000 in
set_option maxHeartbeats 4000000 in
theorem c_X10_send {l : Launch} {G : gt_G} {n : Nat} {w : gt_W} {K V : gx_K} {m : Int32} {hs : Nat → gx_K × Int32} {cnt : Nat} {im : Nat → Nat × (gx_K × Int32) × Nat} {sd : Nat} {x : Nat → Nat} {L fp : Nat} {Q : gx_K} (hX : gx_M w K V m hs cnt im sd x L fp Q) (hW : gx_WF K V m hs cnt im sd x L fp Q) (a9 : Int32) : gt_D l G yX10_send cX10_send 3 (some .int) 3 n [.ref 161, .int a9] w (fun r w' => r = some (.int (aSend K V a9)) ∧ gx_MZ w' (nSend (K, (V, m), hs, cnt, im, sd, x, L, fp, Q) a9) ∧ ∀ a, a < 161 → w' a = w a) := by
  obtain ⟨hM, hV, hpast, him, hsd, htx, hfp, hQ⟩ := id hX
  obtain ⟨kw, vw, vd, hhr, hcnt, hhs, him2, hsd2, hxL, hfp2, qw⟩ := id hW
  refine gt_D_of (own := RX10) (nm := "send") rfl rfl (by decide +kernel) (Nat.le_of_ble_eq_true rfl) ?_
  show gt_A _ _ _ _ _ _ _ _ _ _ _ [(0, .ref 161), (1, .int a9)] _ _
  refine ga_aload_n 0 dX10_send_0 rfl ?_
  refine ga_iload_n 1 dX10_send_1 rfl ?_
  refine ga_V1 km_X10_205 kv_X10_isBoat (c_X10_isBoat hM kw a9) (sh161 _) rfl rfl (gt_rc0 (by decide)) (Nat.le_of_ble_eq_true rfl) dX10_send_2 ?_
  refine ga_if_ne 11 dX10_send_5 (by decide) (fun c_5 => ?_) (fun c_5 => ?_)
  · obtain ⟨k, hk, rfl⟩ := gx_in_of (by have := kw.1; have := kw.2.1; have := kw.2.2.1; have := kw.2.2.2.1; omega) c_5
    have ek : (nI k).toNatClampNeg = k := nI_clamp (by have := kw.1; have := kw.2.1; have := kw.2.2.1; have := kw.2.2.2.1; omega)
    refine ga_aload_n 0 dX10_send_11 rfl ?_
    refine gd_V0 km_X10_225 kv_X10_remember (c_X10_remember hpast.1 hcnt) (sh161 _) rfl rfl (gt_rc0 (by decide)) (Nat.le_of_ble_eq_true rfl) dX10_send_12 (fun r_12 w_12 q_12 => ?_)
    obtain ⟨rfl, orm, erm, e5, hp5⟩ := q_12
    have hX1 := gx_M_rem hX kw hcnt orm erm e5 hp5
    have hM := hX1.1
    have hV := hX1.2.1
    have hm161 : ∀ a, a < 161 → w_12 a = w a := fun a ha => orm a (by omega) (by omega)
    refine ga_aload_n 0 dX10_send_15 rfl ?_
    refine ga_get kf_X10_16 (sh161 _) rfl dX10_send_16 ?_
    refine ga_bipush (nI 19) dX10_send_19 (by decide) ?_
    refine ga_iload_n 1 dX10_send_21 rfl ?_
    refine ga_iadd dX10_send_22 ?_
    refine gm_S4 sh164 hV kw hk dX10_send_23 ?_
    refine gs_istore_n [(0, _), (1, _), (2, _)] dX10_send_24 (by decide) rfl rfl ?_
    refine ga_aload_n 0 dX10_send_25 rfl ?_
    refine ga_get kf_X10_16 (sh161 _) rfl dX10_send_26 ?_
    refine ga_bipush (nI 19) dX10_send_29 (by decide) ?_
    refine ga_iload_n 1 dX10_send_31 rfl ?_
    refine ga_iadd dX10_send_32 ?_
    refine ga_aload_n 0 dX10_send_33 rfl ?_
    refine ga_get kf_X10_7 (sh161 _) rfl dX10_send_34 ?_
    refine ga_bipush (nI 36) dX10_send_37 (by decide) ?_
    refine ga_iload_n 1 dX10_send_39 rfl ?_
    refine ga_iadd dX10_send_40 ?_
    refine gm_C6 hM kw hk dX10_send_41 ?_
    refine gmw_S4 sh164 hV kw hk dX10_send_42 (fun w_42 o_42 hV => ?_)
    refine ga_iload_n 2 dX10_send_43 rfl ?_
    exact gd_iret dX10_send_44 ⟨gv (by unfold aSend; rw [if_neg c_5, ek]), (by rw [nSend_g (c_5)]; rw [ek]; exact gx_M_now hX1 o_42 hV), fun a ha => (o_42 a (by omega)).trans (hm161 a ha)⟩
  · refine ga_ldc kc_X10_191 dX10_send_8 ?_
    exact gd_iret dX10_send_10 ⟨gv (by unfold aSend; rw [if_pos c_5]), (by rw [nSend_k (c_5)]; exact hX), fun _ _ => rfl⟩
set_option maxRecDepth 100000 in
set_option maxHeartbeats 4000000 in
theorem c_X10_hour {l : Launch} {G : gt_G} {n : Nat} {w : gt_W} {K V : gx_K} {m : Int32} {hs : Nat → gx_K × Int32} {cnt : Nat} {im : Nat → Nat × (gx_K × Int32) × Nat} {sd : Nat} {x : Nat → Nat} {L fp : Nat} {Q : gx_K} (hX : gx_M w K V m hs cnt im sd x L fp Q) (hW : gx_WF K V m hs cnt im sd x L fp Q) (a9 : Int32) : gt_D l G yX10_hour cX10_hour 4 (some .int) 6 n [.ref 161, .int a9] w (fun r w' => r = some (.int (aHour K V a9)) ∧ gx_MZ w' (nHour (K, (V, m), hs, cnt, im, sd, x, L, fp, Q) a9) ∧ ∀ a, a < 161 → w' a = w a) := by
  obtain ⟨hM, hV, hpast, him, hsd, htx, hfp, hQ⟩ := id hX
  obtain ⟨kw, vw, vd, hhr, hcnt, hhs, him2, hsd2, hxL, hfp2, qw⟩ := id hW
  refine gt_D_of (own := RX10) (nm := "hour") rfl rfl (by decide +kernel) (Nat.le_of_ble_eq_true rfl) ?_
  show gt_A _ _ _ _ _ _ _ _ _ _ _ [(0, .ref 161), (1, .int a9)] _ _
  refine ga_aload_n 0 dX10_hour_0 rfl ?_
  refine ga_iload_n 1 dX10_hour_1 rfl ?_
  refine ga_V1 km_X10_222 kv_X10_refuses (c_X10_refuses hM kw hV vw hhr a9) (sh161 _) rfl rfl (gt_rc0 (by decide)) (Nat.le_of_ble_eq_true rfl) dX10_hour_2 ?_
  refine gs_istore_n [(0, _), (1, _), (2, _)] dX10_hour_5 (by decide) rfl rfl ?_
  refine ga_iload_n 2 dX10_hour_6 rfl ?_
  refine ga_if_eq 12 dX10_hour_7 (by decide) (fun c_7 => ?_) (fun c_7 => ?_)
  · obtain ⟨⟨k, -, hk, rfl⟩, hz, hh⟩ := gx_refuse_of c_7
    have ek : (nI k).toNatClampNeg = k := nI_clamp (by omega)
    refine ga_aload_n 0 dX10_hour_12 rfl ?_
    refine gd_V0 km_X10_225 kv_X10_remember (c_X10_remember hpast.1 hcnt) (sh161 _) rfl rfl (gt_rc0 (by decide)) (Nat.le_of_ble_eq_true rfl) dX10_hour_13 (fun r_13 w_13 q_13 => ?_)
    obtain ⟨rfl, orm, erm, e5, hp5⟩ := q_13
    have hX1 := gx_M_rem hX kw hcnt orm erm e5 hp5
    have hM := hX1.1
    have hV := hX1.2.1
    have hm161 : ∀ a, a < 161 → w_13 a = w a := fun a ha => orm a (by omega) (by omega)
    refine ga_iconst (nI 0) dX10_hour_16 (by decide) ?_
    refine gs_istore_n [(0, _), (1, _), (2, _), (3, _)] dX10_hour_17 (by decide) rfl rfl ?_
    have loop : ∀ j t, t + j = k → ∀ w1 : gt_W, gx_M w1 K (gx_hn K V m t) m (gx_ph hs cnt (V, m)) (min 16 (cnt + 1)) im sd x L fp Q → (∀ a, a < 161 → w1 a = w a) → gt_A l G RX10 "hour" cX10_hour 4 (some .int) (gt_rm 6 0 0) (gt_ZD G n (fun r w' => r = some (.int (aHour K V (nI k))) ∧ gx_MZ w' (nHour (K, (V, m), hs, cnt, im, sd, x, L, fp, Q) (nI k)) ∧ ∀ a, a < 161 → w' a = w a)) (n, 0, 0) 18 [(0, .ref 161), (1, .int (nI k)), (2, .int (gx_refuse K V (nI k))), (3, .int (nI t))] [] (gt_enc w1) := by
      intro j
      induction j with
      | zero =>
        intro t ht w1 hX1 hF
        have et : t = k := by omega
        have hV := hX1.2.1
        refine ga_iload_n 3 dX10_hour_18 rfl ?_
        refine ga_iload_n 1 dX10_hour_19 rfl ?_
        refine ga_icmp_ge 37 dX10_hour_20 (by decide) (fun c_20 => ?_) (fun c_20 => absurd (nI_le (by omega) (by omega)) c_20)
        refine ga_aload_n 0 dX10_hour_37 rfl ?_
        refine ga_get kf_X10_16 (sh161 _) rfl dX10_hour_38 ?_
        refine ga_bipush (nI 23) dX10_hour_41 (by decide) ?_
        refine gm_sh sh164 hV dX10_hour_43 ?_
        exact gd_iret dX10_hour_44 ⟨gv (by unfold aHour; rw [if_pos c_7, ek, gx_hn_h, et]), by rw [nHour_g c_7, ek, ← et]; exact hX1, hF⟩
      | succ j ih =>
        intro t ht w1 hX1 hF
        have hM := hX1.1
        have hV := hX1.2.1
        refine ga_iload_n 3 dX10_hour_18 rfl ?_
        refine ga_iload_n 1 dX10_hour_19 rfl ?_
        refine ga_icmp_ge 37 dX10_hour_20 (by decide) (fun c_20 => absurd c_20 (nI_ge (by omega) (by omega))) (fun c_20 => ?_)
        refine ga_aload_n 0 dX10_hour_23 rfl ?_
        refine ga_aload_n 0 dX10_hour_24 rfl ?_
        refine ga_get kf_X10_16 (sh161 _) rfl dX10_hour_25 ?_
        refine gd_V1 km_X10_228 kv_X10_hourGoes (c_X10_hourGoes hM kw as164 hV (gx_hn_VW kw vw t)) (sh161 _) rfl rfl (gt_rc0 (by decide)) (Nat.le_of_ble_eq_true rfl) dX10_hour_28 (fun r_28 w_28 q_28 => ?_)
        obtain ⟨rfl, o1, hV1⟩ := q_28
        refine gs_iincN 3 1 [(0, _), (1, _), (2, _), (3, _)] dX10_hour_31 rfl (by decide) (by decide) rfl rfl ?_
        refine ga_goto 18 dX10_hour_34 (by decide) ?_
        exact ih (t + 1) (by omega) _ (gx_M_now hX1 o1 hV1) (fun a ha => (o1 a (by omega)).trans (hF a ha))
    exact loop k 0 (by omega) _ hX1 hm161
  · refine ga_iload_n 2 dX10_hour_10 rfl ?_
    exact gd_iret dX10_hour_11 ⟨gv (by unfold aHour; rw [if_neg c_7]), (by rw [nHour_k (c_7)]; exact hX), fun _ _ => rfl⟩
set_option maxRecDepth 100000 in
set_option maxHeartbeats 4000000 in
theorem c_X10_drift {l : Launch} {G : gt_G} {n : Nat} {w : gt_W} {K V : gx_K} {m : Int32} {hs : Nat → gx_K × Int32} {cnt : Nat} {im : Nat → Nat × (gx_K × Int32) × Nat} {sd : Nat} {x : Nat → Nat} {L fp : Nat} {Q : gx_K} (hX : gx_M w K V m hs cnt im sd x L fp Q) (hW : gx_WF K V m hs cnt im sd x L fp Q) (a9 : Int32) : gt_D l G yX10_drift cX10_drift 4 (some .int) 6 n [.ref 161, .int a9] w (fun r w' => r = some (.int (aHour K V a9)) ∧ gx_MZ w' (nDrift (K, (V, m), hs, cnt, im, sd, x, L, fp, Q) a9) ∧ ∀ a, a < 161 → w' a = w a) := by
  obtain ⟨hM, hV, hpast, him, hsd, htx, hfp, hQ⟩ := id hX
  obtain ⟨kw, vw, vd, hhr, hcnt, hhs, him2, hsd2, hxL, hfp2, qw⟩ := id hW
  refine gt_D_of (own := RX10) (nm := "drift") rfl rfl (by decide +kernel) (Nat.le_of_ble_eq_true rfl) ?_
  show gt_A _ _ _ _ _ _ _ _ _ _ _ [(0, .ref 161), (1, .int a9)] _ _
  refine ga_aload_n 0 dX10_drift_0 rfl ?_
  refine ga_iload_n 1 dX10_drift_1 rfl ?_
  refine ga_V1 km_X10_222 kv_X10_refuses (c_X10_refuses hM kw hV vw hhr a9) (sh161 _) rfl rfl (gt_rc0 (by decide)) (Nat.le_of_ble_eq_true rfl) dX10_drift_2 ?_
  refine gs_istore_n [(0, _), (1, _), (2, _)] dX10_drift_5 (by decide) rfl rfl ?_
  refine ga_iload_n 2 dX10_drift_6 rfl ?_
  refine ga_if_eq 12 dX10_drift_7 (by decide) (fun c_7 => ?_) (fun c_7 => ?_)
  · obtain ⟨⟨k, -, hk, rfl⟩, hz, hh⟩ := gx_refuse_of c_7
    have ek : (nI k).toNatClampNeg = k := nI_clamp (by omega)
    refine ga_aload_n 0 dX10_drift_12 rfl ?_
    refine gd_V0 km_X10_225 kv_X10_remember (c_X10_remember hpast.1 hcnt) (sh161 _) rfl rfl (gt_rc0 (by decide)) (Nat.le_of_ble_eq_true rfl) dX10_drift_13 (fun r_13 w_13 q_13 => ?_)
    obtain ⟨rfl, orm, erm, e5, hp5⟩ := q_13
    have hX1 := gx_M_rem hX kw hcnt orm erm e5 hp5
    have hM := hX1.1
    have hV := hX1.2.1
    have hm161 : ∀ a, a < 161 → w_13 a = w a := fun a ha => orm a (by omega) (by omega)
    refine ga_iconst (nI 0) dX10_drift_16 (by decide) ?_
    refine gs_istore_n [(0, _), (1, _), (2, _), (3, _)] dX10_drift_17 (by decide) rfl rfl ?_
    have loop : ∀ j t, t + j = k → ∀ w1 : gt_W, gx_M w1 K (gx_dn K V m sd t).1 (gx_dn K V m sd t).2.1 (gx_ph hs cnt (V, m)) (min 16 (cnt + 1)) im (gx_dn K V m sd t).2.2 x L fp Q → (∀ a, a < 161 → w1 a = w a) → gt_A l G RX10 "drift" cX10_drift 4 (some .int) (gt_rm 6 0 0) (gt_ZD G n (fun r w' => r = some (.int (aHour K V (nI k))) ∧ gx_MZ w' (nDrift (K, (V, m), hs, cnt, im, sd, x, L, fp, Q) (nI k)) ∧ ∀ a, a < 161 → w' a = w a)) (n, 0, 0) 18 [(0, .ref 161), (1, .int (nI k)), (2, .int (gx_refuse K V (nI k))), (3, .int (nI t))] [] (gt_enc w1) := by
      intro j
      induction j with
      | zero =>
        intro t ht w1 hX1 hF
        have et : t = k := by omega
        have hV := hX1.2.1
        refine ga_iload_n 3 dX10_drift_18 rfl ?_
        refine ga_iload_n 1 dX10_drift_19 rfl ?_
        refine ga_icmp_ge 50 dX10_drift_20 (by decide) (fun c_20 => ?_) (fun c_20 => absurd (nI_le (by omega) (by omega)) c_20)
        refine ga_aload_n 0 dX10_drift_50 rfl ?_
        refine ga_get kf_X10_16 (sh161 _) rfl dX10_drift_51 ?_
        refine ga_bipush (nI 23) dX10_drift_54 (by decide) ?_
        refine gm_sh sh164 hV dX10_drift_56 ?_
        exact gd_iret dX10_drift_57 ⟨gv (by unfold aHour; rw [if_pos c_7, ek, (gx_dn_ok kw vw vd hsd2 t).2.2.1, et]), by rw [nDrift_g c_7, ek, ← et]; exact hX1, hF⟩
      | succ j ih =>
        intro t ht w1 hX1 hF
        have hM := hX1.1
        have hV := hX1.2.1
        have hok := gx_dn_ok kw vw vd hsd2 t (m := m)
        refine ga_iload_n 3 dX10_drift_18 rfl ?_
        refine ga_iload_n 1 dX10_drift_19 rfl ?_
        refine ga_icmp_ge 50 dX10_drift_20 (by decide) (fun c_20 => absurd c_20 (nI_ge (by omega) (by omega))) (fun c_20 => ?_)
        refine ga_aload_n 0 dX10_drift_23 rfl ?_
        refine ga_get kf_X10_7 (sh161 _) rfl dX10_drift_24 ?_
        refine ga_iconst (nI 2) dX10_drift_27 (by decide) ?_
        refine gm_c2 hM dX10_drift_28 ?_
        refine ga_if_le 36 dX10_drift_29 (by decide) (fun c_29 => ?_) (fun c_29 => ?_)
        · have hz2 : K 0 2 = 0 := by rcases Nat.eq_zero_or_pos (K 0 2) with q | q; exact q; exact absurd c_29 (nI_nle q (by have := kw.2.2.1; omega))
          have hst : (gx_stir K (gx_dn K V m sd t).1 (gx_dn K V m sd t).2.1 (gx_dn K V m sd t).2.2) = ((gx_dn K V m sd t).1, (gx_dn K V m sd t).2.1, (gx_dn K V m sd t).2.2) := by unfold gx_stir; rw [if_pos hz2]
          have hX2 : gx_M w1 K (gx_stir K (gx_dn K V m sd t).1 (gx_dn K V m sd t).2.1 (gx_dn K V m sd t).2.2).1 (gx_stir K (gx_dn K V m sd t).1 (gx_dn K V m sd t).2.1 (gx_dn K V m sd t).2.2).2.1 (gx_ph hs cnt (V, m)) (min 16 (cnt + 1)) im (gx_stir K (gx_dn K V m sd t).1 (gx_dn K V m sd t).2.1 (gx_dn K V m sd t).2.2).2.2 x L fp Q := by rw [hst]; exact hX1
          have hF2 := hF
          have hV : gx_ms (w1 164) K (gx_stir K (gx_dn K V m sd t).1 (gx_dn K V m sd t).2.1 (gx_dn K V m sd t).2.2).1 (gx_stir K (gx_dn K V m sd t).1 (gx_dn K V m sd t).2.1 (gx_dn K V m sd t).2.2).2.1 := hX2.2.1
          refine ga_aload_n 0 dX10_drift_36 rfl ?_
          refine ga_aload_n 0 dX10_drift_37 rfl ?_
          refine ga_get kf_X10_16 (sh161 _) rfl dX10_drift_38 ?_
          refine gd_V1 km_X10_228 kv_X10_hourGoes (c_X10_hourGoes hM kw as164 hV (gx_stir_ok hok.1 hok.2.1 hok.2.2.2).1) (sh161 _) rfl rfl (gt_rc0 (by decide)) (Nat.le_of_ble_eq_true rfl) dX10_drift_41 (fun r_41 w_41 q_41 => ?_)
          obtain ⟨rfl, o41, hV1⟩ := q_41
          refine gs_iincN 3 1 [(0, _), (1, _), (2, _), (3, _)] dX10_drift_44 rfl (by decide) (by decide) rfl rfl ?_
          refine ga_goto 18 dX10_drift_47 (by decide) ?_
          exact ih (t + 1) (by omega) _ (gx_M_now hX2 o41 hV1) (fun a ha => (o41 a (by omega)).trans (hF2 a ha))
        · have hz2 : 0 < K 0 2 := by rcases Nat.eq_zero_or_pos (K 0 2) with q | q; exact absurd (show nI (K 0 2) ≤ 0 by rw [q]; decide) c_29; exact q
          refine ga_aload_n 0 dX10_drift_32 rfl ?_
          refine gd_V0 km_X10_252 kv_X10_draws (c_X10_draws hM kw hV hok.1 hok.2.1 hX1.2.2.2.2.1 hok.2.2.2 hz2) (sh161 _) rfl rfl (gt_rc0 (by decide)) (Nat.le_of_ble_eq_true rfl) dX10_drift_33 (fun r_33 w_33 q_33 => ?_)
          obtain ⟨rfl, o33, e33, e338, hV33⟩ := q_33
          have hX2 := gx_M_drawn hX1 o33 e33 e338 hV33
          have hM := hX2.1
          have hV := hX2.2.1
          have hF2 : ∀ a, a < 161 → w_33 a = w a := fun a ha => (o33 a (by omega) (by omega)).trans (hF a ha)
          refine ga_aload_n 0 dX10_drift_36 rfl ?_
          refine ga_aload_n 0 dX10_drift_37 rfl ?_
          refine ga_get kf_X10_16 (sh161 _) rfl dX10_drift_38 ?_
          refine gd_V1 km_X10_228 kv_X10_hourGoes (c_X10_hourGoes hM kw as164 hV (gx_stir_ok hok.1 hok.2.1 hok.2.2.2).1) (sh161 _) rfl rfl (gt_rc0 (by decide)) (Nat.le_of_ble_eq_true rfl) dX10_drift_41 (fun r_41 w_41 q_41 => ?_)
          obtain ⟨rfl, o41, hV1⟩ := q_41
          refine gs_iincN 3 1 [(0, _), (1, _), (2, _), (3, _)] dX10_drift_44 rfl (by decide) (by decide) rfl rfl ?_
          refine ga_goto 18 dX10_drift_47 (by decide) ?_
          exact ih (t + 1) (by omega) _ (gx_M_now hX2 o41 hV1) (fun a ha => (o41 a (by omega)).trans (hF2 a ha))
    exact loop k 0 (by omega) _ hX1 hm161
  · refine ga_iload_n 2 dX10_drift_10 rfl ?_
    exact gd_iret dX10_drift_11 ⟨gv (by unfold aHour; rw [if_neg c_7]), (by rw [nDrift_k (c_7)]; exact hX), fun _ _ => rfl⟩
set_option maxRecDepth 100000 in
set_option maxHeartbeats 4000000 in
theorem c_X10_undo {l : Launch} {G : gt_G} {n : Nat} {w : gt_W} {K V : gx_K} {m : Int32} {hs : Nat → gx_K × Int32} {cnt : Nat} {im : Nat → Nat × (gx_K × Int32) × Nat} {sd : Nat} {x : Nat → Nat} {L fp : Nat} {Q : gx_K} (hX : gx_M w K V m hs cnt im sd x L fp Q) (hW : gx_WF K V m hs cnt im sd x L fp Q)  : gt_D l G yX10_undo cX10_undo 1 (some .int) 3 n [.ref 161] w (fun r w' => r = some (.int (aUndo cnt)) ∧ gx_MZ w' (nUndo (K, (V, m), hs, cnt, im, sd, x, L, fp, Q)) ∧ ∀ a, a < 161 → w' a = w a) := by
  obtain ⟨hM, hV, hpast, him, hsd, htx, hfp, hQ⟩ := id hX
  obtain ⟨kw, vw, vd, hhr, hcnt, hhs, him2, hsd2, hxL, hfp2, qw⟩ := id hW
  refine gt_D_of (own := RX10) (nm := "undo") rfl rfl (by decide +kernel) (Nat.le_of_ble_eq_true rfl) ?_
  show gt_A _ _ _ _ _ _ _ _ _ _ _ [(0, .ref 161)] _ _
  refine ga_aload_n 0 dX10_undo_0 rfl ?_
  refine ga_get kf_X10_72 (sh161 _) (gv hpast.1) dX10_undo_1 ?_
  refine ga_if_ne 10 dX10_undo_4 (by decide) (fun c_4 => ?_) (fun c_4 => ?_)
  · have hz : ¬ cnt = 0 := fun q => c_4 (by rw [q]; rfl)
    refine ga_aload_n 0 dX10_undo_10 rfl ?_
    refine ga_dup dX10_undo_11 rfl ?_
    refine ga_get kf_X10_72 (sh161 _) (gv hpast.1) dX10_undo_12 ?_
    refine ga_iconst (nI 1) dX10_undo_15 (by decide) ?_
    refine ga_isub dX10_undo_16 ?_
    refine gw_put 5 kp_X10_72 (sh161 _) (sh161 _) rfl rfl (Nat.le_of_ble_eq_true rfl) dX10_undo_17 (fun w_17 o_17 e_17 => ?_)
    have e17 : w_17 161 5 = nI (cnt - 1) := by rw [e_17, upd_eq]; exact pk_sub (by omega)
    refine ga_aload_n 0 dX10_undo_20 rfl ?_
    refine ga_get kf_X10_22 (sh161 _) rfl dX10_undo_21 ?_
    refine ga_bipush (nI 24) dX10_undo_24 (by decide) ?_
    refine ga_aload_n 0 dX10_undo_26 rfl ?_
    refine ga_get kf_X10_72 (sh161 _) (gv e17) dX10_undo_27 ?_
    refine ga_imul dX10_undo_30 ?_
    refine ga_top (nI (24 * (cnt - 1))) (pk_mul 24 (cnt - 1)) ?_
    refine ga_aload_n 0 dX10_undo_31 rfl ?_
    refine ga_get kf_X10_16 (sh161 _) rfl dX10_undo_32 ?_
    refine ga_iconst (nI 0) dX10_undo_35 (by decide) ?_
    refine ga_bipush (nI 24) dX10_undo_36 (by decide) ?_
    refine ga_S5 km_X10_68 kv_X10_copies (c_X10_copies (i := 24 * (cnt - 1)) (j := 0) (N := 24) sh166 sh164 (by decide) (by omega) (by decide) (by decide) (by decide)) (gt_rc0 (by decide)) (Nat.le_of_ble_eq_true rfl) dX10_undo_38 ?_
    generalize hw38 : gt_wr w_17 164 (gx_cp (w_17 166) (w_17 164) (24 * (cnt - 1)) 0 24) = w_38
    refine ga_aload_n 0 dX10_undo_41 rfl ?_
    refine ga_get kf_X10_72 (sh161 _) (gv (show w_38 161 5 = nI (cnt - 1) by rw [← hw38, gt_wr_ne _ _ (by decide)]; exact e17)) dX10_undo_42 ?_
    exact gd_iret dX10_undo_45 ⟨gv (by unfold aUndo; rw [if_neg hz]), (by
        rw [nUndo_g hz]
        have hV1 : gx_ms (w_38 164) K (hs (cnt - 1)).1 (hs (cnt - 1)).2 := gx_ms_eq kw (fun i hi => by
          rw [← hw38, gt_wr_eq]
          have h9 := gx_cp_in (f := w_17 166) (g := w_17 164) (i := 24 * (cnt - 1)) (j := 0) hi
          rw [Nat.zero_add] at h9
          rw [h9, o_17 166 (by decide)]) (hpast.2 (cnt - 1) (by omega))
        have ho : ∀ b, b ≠ 161 → b ≠ 164 → w_38 b = w b := fun b h1 h2 => by rw [← hw38, gt_wr_ne _ _ h2, o_17 b h1]
        have he : ∀ q, q ≠ 5 → w_38 161 q = w 161 q := fun q hq => by rw [← hw38, gt_wr_ne _ _ (by decide), e_17, upd_ne _ _ hq]
        show gx_M w_38 K (hs (cnt - 1)).1 (hs (cnt - 1)).2 hs (cnt - 1) im sd x L fp Q
        unfold gx_M gx_mn at hX ⊢
        rw [ho 162 (by decide) (by decide), ho 166 (by decide) (by decide), ho 167 (by decide) (by decide), ho 168 (by decide) (by decide), ho 169 (by decide) (by decide), ho 170 (by decide) (by decide), ho 171 (by decide) (by decide), ho 172 (by decide) (by decide), he 8 (by decide), he 10 (by decide), he 11 (by decide), he 13 (by decide), he 15 (by decide), he 17 (by decide)]
        exact ⟨hX.1, hV1, ⟨by rw [← hw38, gt_wr_ne _ _ (by decide)]; exact e17, fun k hk => hX.2.2.1.2 k (by omega)⟩, hX.2.2.2⟩), fun a ha => by rw [← hw38, gt_wr_ne _ _ (by omega), o_17 a (by omega)]⟩
  · have hz : cnt = 0 := (nI_eq (by omega) (by decide)).mp (c_4.trans nI_0.symm)
    refine ga_ldc kc_X10_221 dX10_undo_7 ?_
    exact gd_iret dX10_undo_9 ⟨gv (by unfold aUndo; rw [if_pos hz]), (by rw [nUndo_k (hz)]; exact hX), fun _ _ => rfl⟩
