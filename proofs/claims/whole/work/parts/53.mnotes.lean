set_option maxRecDepth 100000 in
set_option maxHeartbeats 4000000 in
theorem c_X10_shareOf {l : Launch} {G : gt_G} {n : Nat} {w : gt_W} {K V : gx_K} {m : Int32} {k p : Nat} (hM : gx_mc (w 162) K) (kw : gx_KW K) (hV : gx_ms (w 164) K V m) (vw : gx_VW K V) (hk : k < K 0 0) (hp : p ≤ 999) : gt_C l G yX10_shareOf cX10_shareOf 5 (some .int) 5 0 0 n [.ref 161, .int (nI p), .int (nI k)] (gt_enc w) (some (.int (nI (gx_share K V p k)))) (gt_enc (w)) := by
  refine gt_C_of (own := RX10) (nm := "shareOf") rfl rfl (by decide +kernel) (Nat.le_of_ble_eq_true rfl) ?_
  show gt_A _ _ _ _ _ _ _ _ _ _ _ [(0, .ref 161), (1, .int (nI p)), (2, .int (nI k))] _ _
  refine ga_iconst (nI 0) dX10_shareOf_0 (by decide) ?_
  refine gs_istore_n [(0, _), (1, _), (2, _), (3, _)] dX10_shareOf_1 (by decide) rfl rfl ?_
  refine ga_iconst (nI 0) dX10_shareOf_2 (by decide) ?_
  refine gs_istore [(0, _), (1, _), (2, _), (3, _), (4, _)] dX10_shareOf_3 (by decide) rfl rfl ?_
  have loop : ∀ j t, t + j = K 0 0 → gt_A l G RX10 "shareOf" cX10_shareOf 5 (some .int) (gt_rm 5 0 0) (gt_Z G (n + 0) 0 0 (some (.int (nI (gx_share K V p k)))) (gt_enc (w))) (n, 0, 0) 5 [(0, .ref 161), (1, .int (nI p)), (2, .int (nI k)), (3, .int (nI (gx_sum (fun x => if gx_dep K V x = 0 then K 1 x else 0) t))), (4, .int (nI t))] [] (gt_enc w) := by
    intro j
    induction j with
    | zero =>
      intro t ht
      have et : t = K 0 0 := by omega
      have hdl := gx_dry_le (V := V) kw
      refine ga_iload 4 dX10_shareOf_5 rfl ?_
      refine ga_aload_n 0 dX10_shareOf_7 rfl ?_
      refine ga_get kf_X10_7 (sh161 _) rfl dX10_shareOf_8 ?_
      refine ga_iconst (nI 0) dX10_shareOf_11 (by decide) ?_
      refine gm_c0 hM dX10_shareOf_12 ?_
      refine ga_icmp_ge 51 dX10_shareOf_13 (by decide) (fun c_13 => ?_) (fun c_13 => absurd (nI_le (by omega) (by have := kw.1; omega)) c_13)
      rw [et]
      refine ga_iload_n 3 dX10_shareOf_51 rfl ?_
      refine ga_if_eq 67 dX10_shareOf_52 (by decide) (fun c_52 => ?_) (fun c_52 => ?_)
      · have hd0 : gx_dry K V = 0 ∨ 0 < gx_dep K V k := Or.inl ((nI_eq (by omega) (by decide)).mp (c_52.trans nI_0.symm))
        refine ga_iconst (nI 0) dX10_shareOf_67 (by decide) ?_
        refine ga_goto 83 dX10_shareOf_68 (by decide) ?_
        exact ga_iret dX10_shareOf_83 (gv (by have h1 : p * K 1 k ≤ 999 * 60 := Nat.mul_le_mul hp (kw.2.2.2.2.1 k hk); unfold gx_share; first | (rw [if_neg hd0, pk_mul]; exact (pk_div (by omega) hdp (by omega)).symm) | (rw [if_pos hd0]))) rfl
      · have hdp : 0 < gx_dry K V := by rcases Nat.eq_zero_or_pos (gx_dry K V) with q | q; exact absurd (show nI (gx_dry K V) = 0 by rw [q]; rfl) c_52; exact q
        refine ga_aload_n 0 dX10_shareOf_55 rfl ?_
        refine ga_aload_n 0 dX10_shareOf_56 rfl ?_
        refine ga_get kf_X10_16 (sh161 _) rfl dX10_shareOf_57 ?_
        refine ga_iload_n 2 dX10_shareOf_60 rfl ?_
        refine ga_V2 km_X10_166 kv_X10_depthOn (c_X10_depthOn hM kw as164 hV vw hk) (sh161 _) rfl rfl (gt_rc0 (by decide)) (Nat.le_of_ble_eq_true rfl) dX10_shareOf_61 ?_
        refine ga_if_le 71 dX10_shareOf_64 (by decide) (fun c_64 => ?_) (fun c_64 => ?_)
        · have hd0 : ¬ (gx_dry K V = 0 ∨ 0 < gx_dep K V k) := fun q => q.elim (fun q => by omega) (fun q => absurd c_64 (nI_nle q (by have := gx_dep_le kw vw k; omega)))
          refine ga_iload_n 1 dX10_shareOf_71 rfl ?_
          refine ga_aload_n 0 dX10_shareOf_72 rfl ?_
          refine ga_get kf_X10_7 (sh161 _) rfl dX10_shareOf_73 ?_
          refine ga_iconst (nI 4) dX10_shareOf_76 (by decide) ?_
          refine ga_iload_n 2 dX10_shareOf_77 rfl ?_
          refine ga_iadd dX10_shareOf_78 ?_
          refine gm_C1 hM kw hk dX10_shareOf_79 ?_
          refine ga_imul dX10_shareOf_80 ?_
          refine ga_iload_n 3 dX10_shareOf_81 rfl ?_
          refine ga_idiv dX10_shareOf_82 (nI_ne0 hdp (show gx_dry K V < 2 ^ 31 by omega)) ?_
          exact ga_iret dX10_shareOf_83 (gv (by have h1 : p * K 1 k ≤ 999 * 60 := Nat.mul_le_mul hp (kw.2.2.2.2.1 k hk); unfold gx_share; first | (rw [if_neg hd0, pk_mul]; exact (pk_div (by omega) hdp (by omega)).symm) | (rw [if_pos hd0]))) rfl
        · have hd0 : gx_dry K V = 0 ∨ 0 < gx_dep K V k := Or.inr (by rcases Nat.eq_zero_or_pos (gx_dep K V k) with q | q; exact absurd (show nI (gx_dep K V k) ≤ 0 by rw [q]; decide) c_64; exact q)
          refine ga_iconst (nI 0) dX10_shareOf_67 (by decide) ?_
          refine ga_goto 83 dX10_shareOf_68 (by decide) ?_
          exact ga_iret dX10_shareOf_83 (gv (by have h1 : p * K 1 k ≤ 999 * 60 := Nat.mul_le_mul hp (kw.2.2.2.2.1 k hk); unfold gx_share; first | (rw [if_neg hd0, pk_mul]; exact (pk_div (by omega) hdp (by omega)).symm) | (rw [if_pos hd0]))) rfl
    | succ j ih =>
      intro t ht
      refine ga_iload 4 dX10_shareOf_5 rfl ?_
      refine ga_aload_n 0 dX10_shareOf_7 rfl ?_
      refine ga_get kf_X10_7 (sh161 _) rfl dX10_shareOf_8 ?_
      refine ga_iconst (nI 0) dX10_shareOf_11 (by decide) ?_
      refine gm_c0 hM dX10_shareOf_12 ?_
      refine ga_icmp_ge 51 dX10_shareOf_13 (by decide) (fun c_13 => absurd c_13 (nI_ge (by omega) (by have := kw.1; omega))) (fun c_13 => ?_)
      refine ga_iload_n 3 dX10_shareOf_16 rfl ?_
      refine ga_aload_n 0 dX10_shareOf_17 rfl ?_
      refine ga_aload_n 0 dX10_shareOf_18 rfl ?_
      refine ga_get kf_X10_16 (sh161 _) rfl dX10_shareOf_19 ?_
      refine ga_iload 4 dX10_shareOf_22 rfl ?_
      refine ga_V2 km_X10_166 kv_X10_depthOn (c_X10_depthOn hM kw as164 hV vw (by omega)) (sh161 _) rfl rfl (gt_rc0 (by decide)) (Nat.le_of_ble_eq_true rfl) dX10_shareOf_24 ?_
      refine ga_if_le 34 dX10_shareOf_27 (by decide) (fun c_27 => ?_) (fun c_27 => ?_)
      · have hz : (if gx_dep K V t = 0 then K 1 t else 0) = K 1 t := if_pos (by rcases Nat.eq_zero_or_pos (gx_dep K V t) with q | q; exact q; exact absurd c_27 (nI_nle q (by have := gx_dep_le kw vw t; omega)))
        refine ga_aload_n 0 dX10_shareOf_34 rfl ?_
        refine ga_get kf_X10_7 (sh161 _) rfl dX10_shareOf_35 ?_
        refine ga_iconst (nI 4) dX10_shareOf_38 (by decide) ?_
        refine ga_iload 4 dX10_shareOf_39 rfl ?_
        refine ga_iadd dX10_shareOf_41 ?_
        refine gm_C1 hM kw (by omega) dX10_shareOf_42 ?_
        refine ga_iadd dX10_shareOf_43 ?_
        refine ga_top (nI (gx_sum (fun x => if gx_dep K V x = 0 then K 1 x else 0) (t + 1))) (by rw [nI_add]; show _ = nI (gx_sum (fun x => if gx_dep K V x = 0 then K 1 x else 0) t + (if gx_dep K V t = 0 then K 1 t else 0)); rw [hz]) ?_
        refine gs_istore_n [(0, _), (1, _), (2, _), (3, _), (4, _)] dX10_shareOf_44 (by decide) rfl rfl ?_
        refine gs_iincN 4 1 [(0, _), (1, _), (2, _), (3, _), (4, _)] dX10_shareOf_45 rfl (by decide) (by decide) rfl rfl ?_
        refine ga_goto 5 dX10_shareOf_48 (by decide) ?_
        exact ih (t + 1) (by omega)
      · have hz : (if gx_dep K V t = 0 then K 1 t else 0) = 0 := if_neg (fun q => c_27 (by rw [q]; decide))
        refine ga_iconst (nI 0) dX10_shareOf_30 (by decide) ?_
        refine ga_goto 43 dX10_shareOf_31 (by decide) ?_
        refine ga_iadd dX10_shareOf_43 ?_
        refine ga_top (nI (gx_sum (fun x => if gx_dep K V x = 0 then K 1 x else 0) (t + 1))) (by rw [nI_add]; show _ = nI (gx_sum (fun x => if gx_dep K V x = 0 then K 1 x else 0) t + (if gx_dep K V t = 0 then K 1 t else 0)); rw [hz]) ?_
        refine gs_istore_n [(0, _), (1, _), (2, _), (3, _), (4, _)] dX10_shareOf_44 (by decide) rfl rfl ?_
        refine gs_iincN 4 1 [(0, _), (1, _), (2, _), (3, _), (4, _)] dX10_shareOf_45 rfl (by decide) (by decide) rfl rfl ?_
        refine ga_goto 5 dX10_shareOf_48 (by decide) ?_
        exact ih (t + 1) (by omega)
  exact loop (K 0 0) 0 (by omega)
set_option maxRecDepth 100000 in
set_option maxHeartbeats 4000000 in
theorem c_X10_share {l : Launch} {G : gt_G} {n : Nat} {w : gt_W} {K V : gx_K} {m : Int32} {hs : Nat → gx_K × Int32} {cnt : Nat} {im : Nat → Nat × (gx_K × Int32) × Nat} {sd : Nat} {x : Nat → Nat} {L fp : Nat} {Q : gx_K} (hX : gx_M w K V m hs cnt im sd x L fp Q) (hW : gx_WF K V m hs cnt im sd x L fp Q) (a9 b9 : Int32) : gt_D l G yX10_share cX10_share 5 (some .int) 6 n [.ref 161, .int a9, .int b9] w (fun r w' => r = some (.int (aShare K V a9 b9)) ∧ gx_M w' K V m hs cnt im sd x L fp Q ∧ ∀ a, a < 161 → w' a = w a) := by
  obtain ⟨hM, hV, hpast, him, hsd, htx, hfp, hQ⟩ := id hX
  obtain ⟨kw, vw, vd, hhr, hcnt, hhs, him2, hsd2, hxL, hfp2, qw⟩ := id hW
  refine gt_D_of (own := RX10) (nm := "share") rfl rfl (by decide +kernel) (Nat.le_of_ble_eq_true rfl) ?_
  show gt_A _ _ _ _ _ _ _ _ _ _ _ [(0, .ref 161), (1, .int a9), (2, .int b9)] _ _
  refine ga_iload_n 2 dX10_share_0 rfl ?_
  refine ga_iconst ((-1)) dX10_share_1 (by decide) ?_
  refine ga_icmp_eq 16 dX10_share_2 (by decide) (fun c_2 => ?_) (fun c_2 => ?_)
  · have hok : ¬ (¬ b9 = -1 ∧ gx_in b9 (nI (K 0 0)) = 0) := fun q => q.1 c_2
    refine ga_iload_n 1 dX10_share_16 rfl ?_
    refine ga_i2l dX10_share_17 ?_
    refine ga_lconst 0 dX10_share_18 (by decide) ?_
    refine ga_ldc2_w kc_X10_282 dX10_share_19 ?_
    refine ga_S3 km_X10_64 kv_X10_in (c_X10_in (x := a9) (a := nI 0) (b := nI 999) rfl (by decide) (by decide)) (gt_rc0 (by decide)) (Nat.le_of_ble_eq_true rfl) dX10_share_22 ?_
    refine ga_if_ne 31 dX10_share_25 (by decide) (fun c_25 => ?_) (fun c_25 => ?_)
    · obtain ⟨p, hpl, hp, rfl⟩ := gx_wi_of (by decide) (by decide) c_25
      have ep : (nI p).toNatClampNeg = p := nI_clamp (by omega)
      refine ga_iload_n 2 dX10_share_31 rfl ?_
      refine ga_iconst ((-1)) dX10_share_32 (by decide) ?_
      refine ga_icmp_eq 43 dX10_share_33 (by decide) (fun c_33 => ?_) (fun c_33 => ?_)
      · refine ga_iload_n 1 dX10_share_43 rfl ?_
        refine gs_istore_n [(0, _), (1, _), (2, _), (3, _)] dX10_share_44 (by decide) rfl rfl ?_
        refine ga_iconst (nI 0) dX10_share_45 (by decide) ?_
        refine gs_istore [(0, _), (1, _), (2, _), (3, _), (4, _)] dX10_share_46 (by decide) rfl rfl ?_
        have loop : ∀ j t, t + j = K 0 0 → gt_A l G RX10 "share" cX10_share 5 (some .int) (gt_rm 6 0 0) (gt_ZD G n (fun r w' => r = some (.int (aShare K V (nI p) b9)) ∧ gx_M w' K V m hs cnt im sd x L fp Q ∧ ∀ a, a < 161 → w' a = w a)) (n, 0, 0) 48 [(0, .ref 161), (1, .int (nI p)), (2, .int b9), (3, .int (gx_lf K V p t)), (4, .int (nI t))] [] (gt_enc w) := by
          intro j
          induction j with
          | zero =>
            intro t ht
            have et : t = K 0 0 := by omega
            refine ga_iload 4 dX10_share_48 rfl ?_
            refine ga_aload_n 0 dX10_share_50 rfl ?_
            refine ga_get kf_X10_7 (sh161 _) rfl dX10_share_51 ?_
            refine ga_iconst (nI 0) dX10_share_54 (by decide) ?_
            refine gm_c0 hM dX10_share_55 ?_
            refine ga_icmp_ge 75 dX10_share_56 (by decide) (fun c_56 => ?_) (fun c_56 => absurd (nI_le (by omega) (by have := kw.1; omega)) c_56)
            refine ga_iload_n 3 dX10_share_75 rfl ?_
            exact gd_iret dX10_share_76 ⟨gv (by unfold aShare; rw [if_neg hok, if_neg c_25, if_pos c_33, ep, ← et]), hX, fun _ _ => rfl⟩
          | succ j ih =>
            intro t ht
            refine ga_iload 4 dX10_share_48 rfl ?_
            refine ga_aload_n 0 dX10_share_50 rfl ?_
            refine ga_get kf_X10_7 (sh161 _) rfl dX10_share_51 ?_
            refine ga_iconst (nI 0) dX10_share_54 (by decide) ?_
            refine gm_c0 hM dX10_share_55 ?_
            refine ga_icmp_ge 75 dX10_share_56 (by decide) (fun c_56 => absurd c_56 (nI_ge (by omega) (by have := kw.1; omega))) (fun c_56 => ?_)
            refine ga_iload_n 3 dX10_share_59 rfl ?_
            refine ga_aload_n 0 dX10_share_60 rfl ?_
            refine ga_iload_n 1 dX10_share_61 rfl ?_
            refine ga_iload 4 dX10_share_62 rfl ?_
            refine ga_V2 km_X10_284 kv_X10_shareOf (c_X10_shareOf hM kw hV vw (by omega) hp) (sh161 _) rfl rfl (gt_rc0 (by decide)) (Nat.le_of_ble_eq_true rfl) dX10_share_64 ?_
            refine ga_isub dX10_share_67 ?_
            refine gs_istore_n [(0, _), (1, _), (2, _), (3, _), (4, _)] dX10_share_68 (by decide) rfl rfl ?_
            refine gs_iincN 4 1 [(0, _), (1, _), (2, _), (3, _), (4, _)] dX10_share_69 rfl (by decide) (by decide) rfl rfl ?_
            refine ga_goto 48 dX10_share_72 (by decide) ?_
            exact ih (t + 1) (by omega)
        exact loop (K 0 0) 0 (by omega)
      · have hin : ¬ gx_in b9 (nI (K 0 0)) = 0 := fun q => hok ⟨c_33, q⟩
        obtain ⟨k, hk, rfl⟩ := gx_in_of (by have := kw.1; have := kw.2.1; have := kw.2.2.1; have := kw.2.2.2.1; omega) hin
        have ek : (nI k).toNatClampNeg = k := nI_clamp (by have := kw.1; have := kw.2.1; have := kw.2.2.1; have := kw.2.2.2.1; omega)
        refine ga_aload_n 0 dX10_share_36 rfl ?_
        refine ga_iload_n 1 dX10_share_37 rfl ?_
        refine ga_iload_n 2 dX10_share_38 rfl ?_
        refine ga_V2 km_X10_284 kv_X10_shareOf (c_X10_shareOf hM kw hV vw hk hp) (sh161 _) rfl rfl (gt_rc0 (by decide)) (Nat.le_of_ble_eq_true rfl) dX10_share_39 ?_
        exact gd_iret dX10_share_42 ⟨gv (by unfold aShare; rw [if_neg hok, if_neg c_25, if_neg c_33, ep, ek]), hX, fun _ _ => rfl⟩
    · refine ga_ldc kc_X10_86 dX10_share_28 ?_
      exact gd_iret dX10_share_30 ⟨gv (by unfold aShare; rw [if_neg hok, if_pos c_25]), hX, fun _ _ => rfl⟩
  · refine ga_aload_n 0 dX10_share_5 rfl ?_
    refine ga_iload_n 2 dX10_share_6 rfl ?_
    refine ga_V1 km_X10_188 kv_X10_isCell (c_X10_isCell hM kw b9) (sh161 _) rfl rfl (gt_rc0 (by decide)) (Nat.le_of_ble_eq_true rfl) dX10_share_7 ?_
    refine ga_if_ne 16 dX10_share_10 (by decide) (fun c_10 => ?_) (fun c_10 => ?_)
    · have hok : ¬ (¬ b9 = -1 ∧ gx_in b9 (nI (K 0 0)) = 0) := fun q => c_10 q.2
      refine ga_iload_n 1 dX10_share_16 rfl ?_
      refine ga_i2l dX10_share_17 ?_
      refine ga_lconst 0 dX10_share_18 (by decide) ?_
      refine ga_ldc2_w kc_X10_282 dX10_share_19 ?_
      refine ga_S3 km_X10_64 kv_X10_in (c_X10_in (x := a9) (a := nI 0) (b := nI 999) rfl (by decide) (by decide)) (gt_rc0 (by decide)) (Nat.le_of_ble_eq_true rfl) dX10_share_22 ?_
      refine ga_if_ne 31 dX10_share_25 (by decide) (fun c_25 => ?_) (fun c_25 => ?_)
      · obtain ⟨p, hpl, hp, rfl⟩ := gx_wi_of (by decide) (by decide) c_25
        have ep : (nI p).toNatClampNeg = p := nI_clamp (by omega)
        refine ga_iload_n 2 dX10_share_31 rfl ?_
        refine ga_iconst ((-1)) dX10_share_32 (by decide) ?_
        refine ga_icmp_eq 43 dX10_share_33 (by decide) (fun c_33 => ?_) (fun c_33 => ?_)
        · refine ga_iload_n 1 dX10_share_43 rfl ?_
          refine gs_istore_n [(0, _), (1, _), (2, _), (3, _)] dX10_share_44 (by decide) rfl rfl ?_
          refine ga_iconst (nI 0) dX10_share_45 (by decide) ?_
          refine gs_istore [(0, _), (1, _), (2, _), (3, _), (4, _)] dX10_share_46 (by decide) rfl rfl ?_
          have loop : ∀ j t, t + j = K 0 0 → gt_A l G RX10 "share" cX10_share 5 (some .int) (gt_rm 6 0 0) (gt_ZD G n (fun r w' => r = some (.int (aShare K V (nI p) b9)) ∧ gx_M w' K V m hs cnt im sd x L fp Q ∧ ∀ a, a < 161 → w' a = w a)) (n, 0, 0) 48 [(0, .ref 161), (1, .int (nI p)), (2, .int b9), (3, .int (gx_lf K V p t)), (4, .int (nI t))] [] (gt_enc w) := by
            intro j
            induction j with
            | zero =>
              intro t ht
              have et : t = K 0 0 := by omega
              refine ga_iload 4 dX10_share_48 rfl ?_
              refine ga_aload_n 0 dX10_share_50 rfl ?_
              refine ga_get kf_X10_7 (sh161 _) rfl dX10_share_51 ?_
              refine ga_iconst (nI 0) dX10_share_54 (by decide) ?_
              refine gm_c0 hM dX10_share_55 ?_
              refine ga_icmp_ge 75 dX10_share_56 (by decide) (fun c_56 => ?_) (fun c_56 => absurd (nI_le (by omega) (by have := kw.1; omega)) c_56)
              refine ga_iload_n 3 dX10_share_75 rfl ?_
              exact gd_iret dX10_share_76 ⟨gv (by unfold aShare; rw [if_neg hok, if_neg c_25, if_pos c_33, ep, ← et]), hX, fun _ _ => rfl⟩
            | succ j ih =>
              intro t ht
              refine ga_iload 4 dX10_share_48 rfl ?_
              refine ga_aload_n 0 dX10_share_50 rfl ?_
              refine ga_get kf_X10_7 (sh161 _) rfl dX10_share_51 ?_
              refine ga_iconst (nI 0) dX10_share_54 (by decide) ?_
              refine gm_c0 hM dX10_share_55 ?_
              refine ga_icmp_ge 75 dX10_share_56 (by decide) (fun c_56 => absurd c_56 (nI_ge (by omega) (by have := kw.1; omega))) (fun c_56 => ?_)
              refine ga_iload_n 3 dX10_share_59 rfl ?_
              refine ga_aload_n 0 dX10_share_60 rfl ?_
              refine ga_iload_n 1 dX10_share_61 rfl ?_
              refine ga_iload 4 dX10_share_62 rfl ?_
              refine ga_V2 km_X10_284 kv_X10_shareOf (c_X10_shareOf hM kw hV vw (by omega) hp) (sh161 _) rfl rfl (gt_rc0 (by decide)) (Nat.le_of_ble_eq_true rfl) dX10_share_64 ?_
              refine ga_isub dX10_share_67 ?_
              refine gs_istore_n [(0, _), (1, _), (2, _), (3, _), (4, _)] dX10_share_68 (by decide) rfl rfl ?_
              refine gs_iincN 4 1 [(0, _), (1, _), (2, _), (3, _), (4, _)] dX10_share_69 rfl (by decide) (by decide) rfl rfl ?_
              refine ga_goto 48 dX10_share_72 (by decide) ?_
              exact ih (t + 1) (by omega)
          exact loop (K 0 0) 0 (by omega)
        · have hin : ¬ gx_in b9 (nI (K 0 0)) = 0 := fun q => hok ⟨c_33, q⟩
          obtain ⟨k, hk, rfl⟩ := gx_in_of (by have := kw.1; have := kw.2.1; have := kw.2.2.1; have := kw.2.2.2.1; omega) hin
          have ek : (nI k).toNatClampNeg = k := nI_clamp (by have := kw.1; have := kw.2.1; have := kw.2.2.1; have := kw.2.2.2.1; omega)
          refine ga_aload_n 0 dX10_share_36 rfl ?_
          refine ga_iload_n 1 dX10_share_37 rfl ?_
          refine ga_iload_n 2 dX10_share_38 rfl ?_
          refine ga_V2 km_X10_284 kv_X10_shareOf (c_X10_shareOf hM kw hV vw hk hp) (sh161 _) rfl rfl (gt_rc0 (by decide)) (Nat.le_of_ble_eq_true rfl) dX10_share_39 ?_
          exact gd_iret dX10_share_42 ⟨gv (by unfold aShare; rw [if_neg hok, if_neg c_25, if_neg c_33, ep, ek]), hX, fun _ _ => rfl⟩
      · refine ga_ldc kc_X10_86 dX10_share_28 ?_
        exact gd_iret dX10_share_30 ⟨gv (by unfold aShare; rw [if_neg hok, if_pos c_25]), hX, fun _ _ => rfl⟩
    · refine ga_ldc kc_X10_191 dX10_share_13 ?_
      exact gd_iret dX10_share_15 ⟨gv (by unfold aShare; rw [if_pos ⟨c_2, c_10⟩]), hX, fun _ _ => rfl⟩
set_option maxRecDepth 100000 in
set_option maxHeartbeats 4000000 in
theorem c_X10_calm {l : Launch} {G : gt_G} {n : Nat} {w : gt_W} {K V : gx_K} {m : Int32} {hs : Nat → gx_K × Int32} {cnt : Nat} {im : Nat → Nat × (gx_K × Int32) × Nat} {sd : Nat} {x : Nat → Nat} {L fp : Nat} {Q : gx_K} (hX : gx_M w K V m hs cnt im sd x L fp Q) (hW : gx_WF K V m hs cnt im sd x L fp Q) (a9 b9 : Int32) : gt_D l G yX10_calm cX10_calm 6 (some .int) 2 n [.ref 161, .int a9, .int b9] w (fun r w' => r = some (.int (aCalm a9 b9)) ∧ gx_M w' K V m hs cnt im sd x L fp Q ∧ ∀ a, a < 161 → w' a = w a) := by
  obtain ⟨hM, hV, hpast, him, hsd, htx, hfp, hQ⟩ := id hX
  obtain ⟨kw, vw, vd, hhr, hcnt, hhs, him2, hsd2, hxL, hfp2, qw⟩ := id hW
  refine gt_D_of (own := RX10) (nm := "calm") rfl rfl (by decide +kernel) (Nat.le_of_ble_eq_true rfl) ?_
  show gt_A _ _ _ _ _ _ _ _ _ _ _ [(0, .ref 161), (1, .int a9), (2, .int b9)] _ _
  refine ga_iload_n 1 dX10_calm_0 rfl ?_
  refine ga_i2l dX10_calm_1 ?_
  refine ga_lconst 0 dX10_calm_2 (by decide) ?_
  refine ga_ldc2_w kc_X10_219 dX10_calm_3 ?_
  refine ga_S3 km_X10_64 kv_X10_in (c_X10_in (x := a9) (a := nI 0) (b := nI 60) rfl (by decide) (by decide)) (gt_rc0 (by decide)) (Nat.le_of_ble_eq_true rfl) dX10_calm_6 ?_
  refine ga_if_eq 24 dX10_calm_9 (by decide) (fun c_9 => ?_) (fun c_9 => ?_)
  · have hno : gx_wi a9 (nI 0) (nI 60) = 0 ∨ gx_wi b9 (nI 0) (nI 100) = 0 := Or.inl c_9
    refine ga_ldc kc_X10_86 dX10_calm_24 ?_
    exact gd_iret dX10_calm_26 ⟨gv (by unfold aCalm; rw [if_pos hno]), hX, fun _ _ => rfl⟩
  · refine ga_iload_n 2 dX10_calm_12 rfl ?_
    refine ga_i2l dX10_calm_13 ?_
    refine ga_lconst 0 dX10_calm_14 (by decide) ?_
    refine ga_ldc2_w kc_X10_255 dX10_calm_15 ?_
    refine ga_S3 km_X10_64 kv_X10_in (c_X10_in (x := b9) (a := nI 0) (b := nI 100) rfl (by decide) (by decide)) (gt_rc0 (by decide)) (Nat.le_of_ble_eq_true rfl) dX10_calm_18 ?_
    refine ga_if_ne 27 dX10_calm_21 (by decide) (fun c_21 => ?_) (fun c_21 => ?_)
    · have hyes : ¬ (gx_wi a9 (nI 0) (nI 60) = 0 ∨ gx_wi b9 (nI 0) (nI 100) = 0) := fun q => q.elim c_9 c_21
      obtain ⟨N, hNl, hN, rfl⟩ := gx_wi_of (by decide) (by decide) c_9
      have eN : (nI N).toNatClampNeg = N := nI_clamp (by omega)
      obtain ⟨q9, hq9l, hq9, rfl⟩ := gx_wi_of (by decide) (by decide) c_21
      have eq9 : (nI q9).toNatClampNeg = q9 := nI_clamp (by omega)
      refine ga_ldc2_w kc_X10_287 dX10_calm_27 ?_
      refine gs_lstore_n [(0, _), (1, _), (2, _), (3, _)] dX10_calm_30 (by decide) rfl rfl ?_
      refine ga_iconst (nI 0) dX10_calm_31 (by decide) ?_
      refine gs_istore [(0, _), (1, _), (2, _), (3, _), (5, _)] dX10_calm_32 (by decide) rfl rfl ?_
      have loop : ∀ j t, t + j = N → gt_A l G RX10 "calm" cX10_calm 6 (some .int) (gt_rm 2 0 0) (gt_ZD G n (fun r w' => r = some (.int (aCalm (nI N) (nI q9))) ∧ gx_M w' K V m hs cnt im sd x L fp Q ∧ ∀ a, a < 161 → w' a = w a)) (n, 0, 0) 34 [(0, .ref 161), (1, .int (nI N)), (2, .int (nI q9)), (3, .long (lN (gx_clm q9 t))), (5, .int (nI t))] [] (gt_enc w) := by
        intro j
        induction j with
        | zero =>
          intro t ht
          have et : t = N := by omega
          refine ga_iload 4 dX10_calm_34 rfl ?_
          refine ga_iload_n 1 dX10_calm_36 rfl ?_
          refine ga_icmp_ge 55 dX10_calm_37 (by decide) (fun c_37 => ?_) (fun c_37 => absurd (nI_le (by omega) (by omega)) c_37)
          refine ga_lload_n 3 dX10_calm_55 rfl ?_
          refine ga_l2i dX10_calm_56 ?_
          exact gd_iret dX10_calm_57 ⟨gv (by unfold aCalm; rw [if_neg hyes, eN, eq9, ← et, lN_i]), hX, fun _ _ => rfl⟩
        | succ j ih =>
          intro t ht
          refine ga_iload 4 dX10_calm_34 rfl ?_
          refine ga_iload_n 1 dX10_calm_36 rfl ?_
          refine ga_icmp_ge 55 dX10_calm_37 (by decide) (fun c_37 => absurd c_37 (nI_ge (by omega) (by omega))) (fun c_37 => ?_)
          refine ga_lload_n 3 dX10_calm_40 rfl ?_
          refine ga_iload_n 2 dX10_calm_41 rfl ?_
          refine ga_i2l dX10_calm_42 ?_
          refine ga_lmul dX10_calm_43 ?_
          refine ga_ldc2_w kc_X10_255 dX10_calm_44 ?_
          refine ga_ldiv dX10_calm_47 (by decide) ?_
          refine ga_stE (st' := [.long (lN (gx_clm q9 (t + 1)))]) (by have h1 := gx_clm_le hq9 t; have h2 : gx_clm q9 t * q9 ≤ 1000000000 * 100 := Nat.mul_le_mul h1 hq9; show [Value.long (lN (gx_clm q9 t) * (nI q9).toInt64 / lN 100)] = _; rw [nI_l (by omega), lN_mul, gx_ldiv (by omega) (by decide) (by decide)]; rfl) ?_
          refine gs_lstore_n [(0, _), (1, _), (2, _), (3, _), (5, _)] dX10_calm_48 (by decide) rfl rfl ?_
          refine gs_iincN 4 1 [(0, _), (1, _), (2, _), (3, _), (5, _)] dX10_calm_49 rfl (by decide) (by decide) rfl rfl ?_
          refine ga_goto 34 dX10_calm_52 (by decide) ?_
          exact ih (t + 1) (by omega)
      exact loop (N) 0 (by omega)
    · have hno : gx_wi a9 (nI 0) (nI 60) = 0 ∨ gx_wi b9 (nI 0) (nI 100) = 0 := Or.inr c_21
      refine ga_ldc kc_X10_86 dX10_calm_24 ?_
      exact gd_iret dX10_calm_26 ⟨gv (by unfold aCalm; rw [if_pos hno]), hX, fun _ _ => rfl⟩
/-- other notes of the reference -/
theorem gx_M_notes {w w' : gt_W} {K V : gx_K} {m : Int32} {hs : Nat → gx_K × Int32} {cnt : Nat} {im : Nat → Nat × (gx_K × Int32) × Nat} {sd : Nat} {x : Nat → Nat} {L fp : Nat} {Q : gx_K} {Q2 : gx_K} (h : gx_M w K V m hs cnt im sd x L fp Q) (o : ∀ b, b ≠ 161 → b ≠ 170 → b ≠ 171 → b ≠ 172 → w' b = w b) (e : ∀ q, q ≠ 13 → q ≠ 15 → q ≠ 17 → w' 161 q = w 161 q) (hn : gx_mn w' Q2) : gx_M w' K V m hs cnt im sd x L fp Q2 := by
  unfold gx_M at h ⊢
  rw [o 162 (by decide) (by decide) (by decide) (by decide), o 164 (by decide) (by decide) (by decide) (by decide), o 166 (by decide) (by decide) (by decide) (by decide), o 167 (by decide) (by decide) (by decide) (by decide), o 168 (by decide) (by decide) (by decide) (by decide), o 169 (by decide) (by decide) (by decide) (by decide), e 5 (by decide) (by decide) (by decide), e 8 (by decide) (by decide) (by decide), e 10 (by decide) (by decide) (by decide), e 11 (by decide) (by decide) (by decide)]
  exact ⟨h.1, h.2.1, h.2.2.1, h.2.2.2.1, h.2.2.2.2.1, h.2.2.2.2.2.1, h.2.2.2.2.2.2.1, hn⟩
theorem gx_mn_mark {w w' : gt_W} {Q : gx_K} {a b d : Nat} (h : gx_mn w Q) (e13 : w' 161 13 = nI (Q 0 0 + 1)) (e15 : w' 161 15 = w 161 15) (e17 : w' 161 17 = w 161 17) (e : w' 170 = upd (upd (upd (w 170) (3 * Q 0 0) (nI a)) (3 * Q 0 0 + 1) (nI b)) (3 * Q 0 0 + 2) (nI d)) (o1 : w' 171 = w 171) (o2 : w' 172 = w 172) : gx_mn w' (gx_up (gx_up (gx_up (gx_up Q 0 0 (Q 0 0 + 1)) 1 (Q 0 0) a) 2 (Q 0 0) b) 3 (Q 0 0) d) := by
  obtain ⟨⟨h1, h2, h3⟩, h4, h5, h6⟩ := h
  refine ⟨⟨by rw [e13]; simp [gx_up], by rw [e15, h2]; simp [gx_up], by rw [e17, h3]; simp [gx_up]⟩, fun j hj => ?_, fun j hj => ?_, fun j hj => ?_⟩
  · have hj : j < Q 0 0 + 1 := by simpa [gx_up] using hj
    rw [e]
    by_cases ej : j = Q 0 0
    · subst ej
      refine ⟨?_, ?_, ?_⟩
      · rw [upd_ne _ _ (by omega), upd_ne _ _ (by omega), upd_eq]; simp [gx_up]
      · rw [upd_ne _ _ (by omega), upd_eq]; simp [gx_up]
      · rw [upd_eq]; simp [gx_up]
    · have h9 := h4 j (by omega)
      refine ⟨?_, ?_, ?_⟩
      · rw [upd_ne _ _ (by omega), upd_ne _ _ (by omega), upd_ne _ _ (by omega), h9.1]; simp [gx_up, ej]
      · rw [upd_ne _ _ (by omega), upd_ne _ _ (by omega), upd_ne _ _ (by omega), h9.2.1]; simp [gx_up, ej]
      · rw [upd_ne _ _ (by omega), upd_ne _ _ (by omega), upd_ne _ _ (by omega), h9.2.2]; simp [gx_up, ej]
  · have hj : j < Q 0 1 := by simpa [gx_up] using hj
    rw [o1]
    simpa [gx_up] using h5 j hj
  · have hj : j < Q 0 2 := by simpa [gx_up] using hj
    rw [o2]
    simpa [gx_up] using h6 j hj
theorem gx_mn_see {w w' : gt_W} {Q : gx_K} {a b d : Nat} (h : gx_mn w Q) (e13 : w' 161 13 = w 161 13) (e15 : w' 161 15 = nI (Q 0 1 + 1)) (e17 : w' 161 17 = w 161 17) (e : w' 171 = upd (upd (upd (w 171) (3 * Q 0 1) (nI a)) (3 * Q 0 1 + 1) (nI b)) (3 * Q 0 1 + 2) (nI d)) (o1 : w' 170 = w 170) (o2 : w' 172 = w 172) : gx_mn w' (gx_up (gx_up (gx_up (gx_up Q 0 1 (Q 0 1 + 1)) 4 (Q 0 1) a) 5 (Q 0 1) b) 6 (Q 0 1) d) := by
  obtain ⟨⟨h1, h2, h3⟩, h4, h5, h6⟩ := h
  refine ⟨⟨by rw [e13, h1]; simp [gx_up], by rw [e15]; simp [gx_up], by rw [e17, h3]; simp [gx_up]⟩, fun j hj => ?_, fun j hj => ?_, fun j hj => ?_⟩
  · have hj : j < Q 0 0 := by simpa [gx_up] using hj
    rw [o1]
    simpa [gx_up] using h4 j hj
  · have hj : j < Q 0 1 + 1 := by simpa [gx_up] using hj
    rw [e]
    by_cases ej : j = Q 0 1
    · subst ej
      refine ⟨?_, ?_, ?_⟩
      · rw [upd_ne _ _ (by omega), upd_ne _ _ (by omega), upd_eq]; simp [gx_up]
      · rw [upd_ne _ _ (by omega), upd_eq]; simp [gx_up]
      · rw [upd_eq]; simp [gx_up]
    · have h9 := h5 j (by omega)
      refine ⟨?_, ?_, ?_⟩
      · rw [upd_ne _ _ (by omega), upd_ne _ _ (by omega), upd_ne _ _ (by omega), h9.1]; simp [gx_up, ej]
      · rw [upd_ne _ _ (by omega), upd_ne _ _ (by omega), upd_ne _ _ (by omega), h9.2.1]; simp [gx_up, ej]
      · rw [upd_ne _ _ (by omega), upd_ne _ _ (by omega), upd_ne _ _ (by omega), h9.2.2]; simp [gx_up, ej]
  · have hj : j < Q 0 2 := by simpa [gx_up] using hj
    rw [o2]
    simpa [gx_up] using h6 j hj
theorem gx_mn_write {w w' : gt_W} {Q : gx_K} {a b : Nat} (h : gx_mn w Q) (e13 : w' 161 13 = w 161 13) (e15 : w' 161 15 = w 161 15) (e17 : w' 161 17 = nI (Q 0 2 + 1)) (e : w' 172 = upd (upd (w 172) (2 * Q 0 2) (nI a)) (2 * Q 0 2 + 1) (nI b)) (o1 : w' 170 = w 170) (o2 : w' 171 = w 171) : gx_mn w' (gx_up (gx_up (gx_up Q 0 2 (Q 0 2 + 1)) 7 (Q 0 2) a) 8 (Q 0 2) b) := by
  obtain ⟨⟨h1, h2, h3⟩, h4, h5, h6⟩ := h
  refine ⟨⟨by rw [e13, h1]; simp [gx_up], by rw [e15, h2]; simp [gx_up], by rw [e17]; simp [gx_up]⟩, fun j hj => ?_, fun j hj => ?_, fun j hj => ?_⟩
  · have hj : j < Q 0 0 := by simpa [gx_up] using hj
    rw [o1]
    simpa [gx_up] using h4 j hj
  · have hj : j < Q 0 1 := by simpa [gx_up] using hj
    rw [o2]
    simpa [gx_up] using h5 j hj
  · have hj : j < Q 0 2 + 1 := by simpa [gx_up] using hj
    rw [e]
    by_cases ej : j = Q 0 2
    · subst ej
      refine ⟨?_, ?_⟩
      · rw [upd_ne _ _ (by omega), upd_eq]; simp [gx_up]
      · rw [upd_eq]; simp [gx_up]
    · have h9 := h6 j (by omega)
      refine ⟨?_, ?_⟩
      · rw [upd_ne _ _ (by omega), upd_ne _ _ (by omega), h9.1]; simp [gx_up, ej]
      · rw [upd_ne _ _ (by omega), upd_ne _ _ (by omega), h9.2]; simp [gx_up, ej]
set_option maxRecDepth 100000 in
set_option maxHeartbeats 4000000 in
theorem c_X10_mark {l : Launch} {G : gt_G} {n : Nat} {w : gt_W} {K V : gx_K} {m : Int32} {hs : Nat → gx_K × Int32} {cnt : Nat} {im : Nat → Nat × (gx_K × Int32) × Nat} {sd : Nat} {x : Nat → Nat} {L fp : Nat} {Q : gx_K} (hX : gx_M w K V m hs cnt im sd x L fp Q) (hW : gx_WF K V m hs cnt im sd x L fp Q) (a9 b9 d9 : Int32) : gt_D l G yX10_mark cX10_mark 4 (some .int) 3 n [.ref 161, .int a9, .int b9, .int d9] w (fun r w' => r = some (.int (aMark K Q a9 b9 d9)) ∧ gx_MZ w' (nMark (K, (V, m), hs, cnt, im, sd, x, L, fp, Q) a9 b9 d9) ∧ ∀ a, a < 161 → w' a = w a) := by
  obtain ⟨hM, hV, hpast, him, hsd, htx, hfp, hQ⟩ := id hX
  obtain ⟨kw, vw, vd, hhr, hcnt, hhs, him2, hsd2, hxL, hfp2, qw⟩ := id hW
  refine gt_D_of (own := RX10) (nm := "mark") rfl rfl (by decide +kernel) (Nat.le_of_ble_eq_true rfl) ?_
  show gt_A _ _ _ _ _ _ _ _ _ _ _ [(0, .ref 161), (1, .int a9), (2, .int b9), (3, .int d9)] _ _
  refine ga_aload_n 0 dX10_mark_0 rfl ?_
  refine ga_iload_n 1 dX10_mark_1 rfl ?_
  refine ga_V1 km_X10_188 kv_X10_isCell (c_X10_isCell hM kw a9) (sh161 _) rfl rfl (gt_rc0 (by decide)) (Nat.le_of_ble_eq_true rfl) dX10_mark_2 ?_
  refine ga_if_ne 11 dX10_mark_5 (by decide) (fun c_5 => ?_) (fun c_5 => ?_)
  · obtain ⟨k, hk, rfl⟩ := gx_in_of (by have := kw.1; have := kw.2.1; have := kw.2.2.1; have := kw.2.2.2.1; omega) c_5
    have ek : (nI k).toNatClampNeg = k := nI_clamp (by have := kw.1; have := kw.2.1; have := kw.2.2.1; have := kw.2.2.2.1; omega)
    refine ga_iload_n 2 dX10_mark_11 rfl ?_
    refine ga_i2l dX10_mark_12 ?_
    refine ga_lconst 1 dX10_mark_13 (by decide) ?_
    refine ga_ldc2_w kc_X10_277 dX10_mark_14 ?_
    refine ga_S3 km_X10_64 kv_X10_in (c_X10_in (x := b9) (a := nI 1) (b := nI 20) rfl (by decide) (by decide)) (gt_rc0 (by decide)) (Nat.le_of_ble_eq_true rfl) dX10_mark_17 ?_
    refine ga_if_eq 35 dX10_mark_20 (by decide) (fun c_20 => ?_) (fun c_20 => ?_)
    · have hno : gx_wi b9 (nI 1) (nI 20) = 0 ∨ gx_wi d9 (nI 0) (nI 999) = 0 := Or.inl c_20
      refine ga_ldc kc_X10_86 dX10_mark_35 ?_
      exact gd_iret dX10_mark_37 ⟨gv (by unfold aMark; rw [if_neg c_5, if_pos hno]), (by rw [nMark_k (Or.inl (Or.inr hno))]; exact hX), fun _ _ => rfl⟩
    · refine ga_iload_n 3 dX10_mark_23 rfl ?_
      refine ga_i2l dX10_mark_24 ?_
      refine ga_lconst 0 dX10_mark_25 (by decide) ?_
      refine ga_ldc2_w kc_X10_282 dX10_mark_26 ?_
      refine ga_S3 km_X10_64 kv_X10_in (c_X10_in (x := d9) (a := nI 0) (b := nI 999) rfl (by decide) (by decide)) (gt_rc0 (by decide)) (Nat.le_of_ble_eq_true rfl) dX10_mark_29 ?_
      refine ga_if_ne 38 dX10_mark_32 (by decide) (fun c_32 => ?_) (fun c_32 => ?_)
      · obtain ⟨u, hul, hu, rfl⟩ := gx_wi_of (by decide) (by decide) c_20
        have eu : (nI u).toNatClampNeg = u := nI_clamp (by omega)
        obtain ⟨v, hvl, hv, rfl⟩ := gx_wi_of (by decide) (by decide) c_32
        have ev : (nI v).toNatClampNeg = v := nI_clamp (by omega)
        refine ga_aload_n 0 dX10_mark_38 rfl ?_
        refine ga_get kf_X10_75 (sh161 _) (gv hQ.1.1) dX10_mark_39 ?_
        refine ga_bipush (nI 6) dX10_mark_42 (by decide) ?_
        refine ga_icmp_ne 50 dX10_mark_44 (by decide) (fun c_44 => ?_) (fun c_44 => ?_)
        · have hfu : ¬ Q 0 0 = 6 := fun q => c_44 (by rw [q])
          have hlt : Q 0 0 < 6 := by have := qw.1; omega
          refine ga_aload_n 0 dX10_mark_50 rfl ?_
          refine ga_get kf_X10_39 (sh161 _) rfl dX10_mark_51 ?_
          refine ga_iconst (nI 3) dX10_mark_54 (by decide) ?_
          refine ga_aload_n 0 dX10_mark_55 rfl ?_
          refine ga_get kf_X10_75 (sh161 _) (gv (show w 161 13 = nI (Q 0 0) from hQ.1.1)) dX10_mark_56 ?_
          refine ga_imul dX10_mark_59 ?_
          refine ga_iload_n 1 dX10_mark_60 rfl ?_
          refine gw_iast (sh170) (k := 3 * Q 0 0) (gt_ixe (pk_mul _ _) (by omega) (by decide)) dX10_mark_61 (fun w_61 o_61 e_61 => ?_)
          refine ga_aload_n 0 dX10_mark_62 rfl ?_
          refine ga_get kf_X10_39 (sh161 _) rfl dX10_mark_63 ?_
          refine ga_iconst (nI 3) dX10_mark_66 (by decide) ?_
          refine ga_aload_n 0 dX10_mark_67 rfl ?_
          refine ga_get kf_X10_75 (sh161 _) (gv (show w_61 161 13 = nI (Q 0 0) from by rw [o_61 161 (by decide)]; exact hQ.1.1)) dX10_mark_68 ?_
          refine ga_imul dX10_mark_71 ?_
          refine ga_iconst (nI 1) dX10_mark_72 (by decide) ?_
          refine ga_iadd dX10_mark_73 ?_
          refine ga_iload_n 2 dX10_mark_74 rfl ?_
          refine gw_iast (sh170) (k := 3 * Q 0 0 + 1) (gt_ixe (show nI 3 * nI (Q 0 0) + nI 1 = nI (3 * Q 0 0 + 1) by rw [pk_mul, nI_add]) (by omega) (by decide)) dX10_mark_75 (fun w_75 o_75 e_75 => ?_)
          refine ga_aload_n 0 dX10_mark_76 rfl ?_
          refine ga_get kf_X10_39 (sh161 _) rfl dX10_mark_77 ?_
          refine ga_iconst (nI 3) dX10_mark_80 (by decide) ?_
          refine ga_aload_n 0 dX10_mark_81 rfl ?_
          refine ga_get kf_X10_75 (sh161 _) (gv (show w_75 161 13 = nI (Q 0 0) from by rw [o_75 161 (by decide), o_61 161 (by decide)]; exact hQ.1.1)) dX10_mark_82 ?_
          refine ga_imul dX10_mark_85 ?_
          refine ga_iconst (nI 2) dX10_mark_86 (by decide) ?_
          refine ga_iadd dX10_mark_87 ?_
          refine ga_iload_n 3 dX10_mark_88 rfl ?_
          refine gw_iast (sh170) (k := 3 * Q 0 0 + 2) (gt_ixe (show nI 3 * nI (Q 0 0) + nI 2 = nI (3 * Q 0 0 + 2) by rw [pk_mul, nI_add]) (by omega) (by decide)) dX10_mark_89 (fun w_89 o_89 e_89 => ?_)
          refine ga_aload_n 0 dX10_mark_90 rfl ?_
          refine ga_dup dX10_mark_91 rfl ?_
          refine ga_get kf_X10_75 (sh161 _) (gv (show w_89 161 13 = nI (Q 0 0) from by rw [o_89 161 (by decide), o_75 161 (by decide), o_61 161 (by decide)]; exact hQ.1.1)) dX10_mark_92 ?_
          refine ga_iconst (nI 1) dX10_mark_95 (by decide) ?_
          refine ga_iadd dX10_mark_96 ?_
          refine gw_put 13 kp_X10_75 (sh161 _) (sh161 _) rfl rfl (Nat.le_of_ble_eq_true rfl) dX10_mark_97 (fun w_97 o_97 e_97 => ?_)
          refine ga_aload_n 0 dX10_mark_100 rfl ?_
          refine ga_get kf_X10_75 (sh161 _) (gv (show w_97 161 13 = nI (Q 0 0 + 1) by rw [e_97, upd_eq, nI_add])) dX10_mark_101 ?_
          exact gd_iret dX10_mark_104 ⟨gv (by unfold aMark; rw [if_neg c_5, if_neg (fun q => q.elim c_20 c_32), if_neg hfu]), (by rw [nMark_g (fun q => q.elim (fun q => q.elim c_5 (fun q => q.elim c_20 c_32)) hfu), ek, eu, ev]; exact gx_M_notes hX (fun b h1 h2 h3 h4 => by rw [o_97 b h1, o_89 b h2, o_75 b h2, o_61 b h2]) (fun q h1 h2 h3 => by rw [e_97, upd_ne _ _ h1, o_89 161 (by decide), o_75 161 (by decide), o_61 161 (by decide)]) (gx_mn_mark hQ (by rw [e_97, upd_eq, nI_add]) (by rw [e_97, upd_ne _ _ (by decide), o_89 161 (by decide), o_75 161 (by decide), o_61 161 (by decide)]) (by rw [e_97, upd_ne _ _ (by decide), o_89 161 (by decide), o_75 161 (by decide), o_61 161 (by decide)]) (by rw [o_97 170 (by decide), e_89, e_75, e_61]) (by rw [o_97 171 (by decide), o_89 171 (by decide), o_75 171 (by decide), o_61 171 (by decide)]) (by rw [o_97 172 (by decide), o_89 172 (by decide), o_75 172 (by decide), o_61 172 (by decide)]))), fun a ha => by rw [o_97 a (by omega), o_89 a (by omega), o_75 a (by omega), o_61 a (by omega)]⟩
        · have hfu : Q 0 0 = 6 := (nI_eq (by have := qw.1; omega) (by decide)).mp c_44
          refine ga_ldc kc_X10_90 dX10_mark_47 ?_
          exact gd_iret dX10_mark_49 ⟨gv (by unfold aMark; rw [if_neg c_5, if_neg (fun q => q.elim c_20 c_32), if_pos hfu]), (by rw [nMark_k (Or.inr hfu)]; exact hX), fun _ _ => rfl⟩
      · have hno : gx_wi b9 (nI 1) (nI 20) = 0 ∨ gx_wi d9 (nI 0) (nI 999) = 0 := Or.inr c_32
        refine ga_ldc kc_X10_86 dX10_mark_35 ?_
        exact gd_iret dX10_mark_37 ⟨gv (by unfold aMark; rw [if_neg c_5, if_pos hno]), (by rw [nMark_k (Or.inl (Or.inr hno))]; exact hX), fun _ _ => rfl⟩
  · refine ga_ldc kc_X10_191 dX10_mark_8 ?_
    exact gd_iret dX10_mark_10 ⟨gv (by unfold aMark; rw [if_pos c_5]), (by rw [nMark_k (Or.inl (Or.inl c_5))]; exact hX), fun _ _ => rfl⟩
set_option maxRecDepth 100000 in
set_option maxHeartbeats 4000000 in
theorem c_X10_see {l : Launch} {G : gt_G} {n : Nat} {w : gt_W} {K V : gx_K} {m : Int32} {hs : Nat → gx_K × Int32} {cnt : Nat} {im : Nat → Nat × (gx_K × Int32) × Nat} {sd : Nat} {x : Nat → Nat} {L fp : Nat} {Q : gx_K} (hX : gx_M w K V m hs cnt im sd x L fp Q) (hW : gx_WF K V m hs cnt im sd x L fp Q) (a9 b9 d9 : Int32) : gt_D l G yX10_see cX10_see 4 (some .int) 3 n [.ref 161, .int a9, .int b9, .int d9] w (fun r w' => r = some (.int (aSee Q a9 b9 d9)) ∧ gx_MZ w' (nSee (K, (V, m), hs, cnt, im, sd, x, L, fp, Q) a9 b9 d9) ∧ ∀ a, a < 161 → w' a = w a) := by
  obtain ⟨hM, hV, hpast, him, hsd, htx, hfp, hQ⟩ := id hX
  obtain ⟨kw, vw, vd, hhr, hcnt, hhs, him2, hsd2, hxL, hfp2, qw⟩ := id hW
  refine gt_D_of (own := RX10) (nm := "see") rfl rfl (by decide +kernel) (Nat.le_of_ble_eq_true rfl) ?_
  show gt_A _ _ _ _ _ _ _ _ _ _ _ [(0, .ref 161), (1, .int a9), (2, .int b9), (3, .int d9)] _ _
  refine ga_iload_n 1 dX10_see_0 rfl ?_
  refine ga_i2l dX10_see_1 ?_
  refine ga_lconst 0 dX10_see_2 (by decide) ?_
  refine ga_ldc2_w kc_X10_235 dX10_see_3 ?_
  refine ga_S3 km_X10_64 kv_X10_in (c_X10_in (x := a9) (a := nI 0) (b := nI 99) rfl (by decide) (by decide)) (gt_rc0 (by decide)) (Nat.le_of_ble_eq_true rfl) dX10_see_6 ?_
  refine ga_if_eq 36 dX10_see_9 (by decide) (fun c_9 => ?_) (fun c_9 => ?_)
  · have hno : gx_wi a9 (nI 0) (nI 99) = 0 ∨ gx_wi b9 (nI 0) (nI 9) = 0 ∨ gx_wi d9 (nI 0) (nI 99) = 0 := Or.inl c_9
    refine ga_ldc kc_X10_86 dX10_see_36 ?_
    exact gd_iret dX10_see_38 ⟨gv (by unfold aSee; rw [if_pos hno]), (by rw [nSee_k (Or.inl hno)]; exact hX), fun _ _ => rfl⟩
  · refine ga_iload_n 2 dX10_see_12 rfl ?_
    refine ga_i2l dX10_see_13 ?_
    refine ga_lconst 0 dX10_see_14 (by decide) ?_
    refine ga_ldc2_w kc_X10_299 dX10_see_15 ?_
    refine ga_S3 km_X10_64 kv_X10_in (c_X10_in (x := b9) (a := nI 0) (b := nI 9) rfl (by decide) (by decide)) (gt_rc0 (by decide)) (Nat.le_of_ble_eq_true rfl) dX10_see_18 ?_
    refine ga_if_eq 36 dX10_see_21 (by decide) (fun c_21 => ?_) (fun c_21 => ?_)
    · have hno : gx_wi a9 (nI 0) (nI 99) = 0 ∨ gx_wi b9 (nI 0) (nI 9) = 0 ∨ gx_wi d9 (nI 0) (nI 99) = 0 := Or.inr (Or.inl c_21)
      refine ga_ldc kc_X10_86 dX10_see_36 ?_
      exact gd_iret dX10_see_38 ⟨gv (by unfold aSee; rw [if_pos hno]), (by rw [nSee_k (Or.inl hno)]; exact hX), fun _ _ => rfl⟩
    · refine ga_iload_n 3 dX10_see_24 rfl ?_
      refine ga_i2l dX10_see_25 ?_
      refine ga_lconst 0 dX10_see_26 (by decide) ?_
      refine ga_ldc2_w kc_X10_235 dX10_see_27 ?_
      refine ga_S3 km_X10_64 kv_X10_in (c_X10_in (x := d9) (a := nI 0) (b := nI 99) rfl (by decide) (by decide)) (gt_rc0 (by decide)) (Nat.le_of_ble_eq_true rfl) dX10_see_30 ?_
      refine ga_if_ne 39 dX10_see_33 (by decide) (fun c_33 => ?_) (fun c_33 => ?_)
      · obtain ⟨k, hkl, hk, rfl⟩ := gx_wi_of (by decide) (by decide) c_9
        have ek : (nI k).toNatClampNeg = k := nI_clamp (by omega)
        obtain ⟨u, hul, hu, rfl⟩ := gx_wi_of (by decide) (by decide) c_21
        have eu : (nI u).toNatClampNeg = u := nI_clamp (by omega)
        obtain ⟨v, hvl, hv, rfl⟩ := gx_wi_of (by decide) (by decide) c_33
        have ev : (nI v).toNatClampNeg = v := nI_clamp (by omega)
        refine ga_aload_n 0 dX10_see_39 rfl ?_
        refine ga_get kf_X10_78 (sh161 _) (gv hQ.1.2.1) dX10_see_40 ?_
        refine ga_bipush (nI 6) dX10_see_43 (by decide) ?_
        refine ga_icmp_ne 51 dX10_see_45 (by decide) (fun c_45 => ?_) (fun c_45 => ?_)
        · have hfu : ¬ Q 0 1 = 6 := fun q => c_45 (by rw [q])
          have hlt : Q 0 1 < 6 := by have := qw.1; omega
          refine ga_aload_n 0 dX10_see_51 rfl ?_
          refine ga_get kf_X10_42 (sh161 _) rfl dX10_see_52 ?_
          refine ga_iconst (nI 3) dX10_see_55 (by decide) ?_
          refine ga_aload_n 0 dX10_see_56 rfl ?_
          refine ga_get kf_X10_78 (sh161 _) (gv (show w 161 15 = nI (Q 0 1) from hQ.1.2.1)) dX10_see_57 ?_
          refine ga_imul dX10_see_60 ?_
          refine ga_iload_n 1 dX10_see_61 rfl ?_
          refine gw_iast (sh171) (k := 3 * Q 0 1) (gt_ixe (pk_mul _ _) (by omega) (by decide)) dX10_see_62 (fun w_62 o_62 e_62 => ?_)
          refine ga_aload_n 0 dX10_see_63 rfl ?_
          refine ga_get kf_X10_42 (sh161 _) rfl dX10_see_64 ?_
          refine ga_iconst (nI 3) dX10_see_67 (by decide) ?_
          refine ga_aload_n 0 dX10_see_68 rfl ?_
          refine ga_get kf_X10_78 (sh161 _) (gv (show w_62 161 15 = nI (Q 0 1) from by rw [o_62 161 (by decide)]; exact hQ.1.2.1)) dX10_see_69 ?_
          refine ga_imul dX10_see_72 ?_
          refine ga_iconst (nI 1) dX10_see_73 (by decide) ?_
          refine ga_iadd dX10_see_74 ?_
          refine ga_iload_n 2 dX10_see_75 rfl ?_
          refine gw_iast (sh171) (k := 3 * Q 0 1 + 1) (gt_ixe (show nI 3 * nI (Q 0 1) + nI 1 = nI (3 * Q 0 1 + 1) by rw [pk_mul, nI_add]) (by omega) (by decide)) dX10_see_76 (fun w_76 o_76 e_76 => ?_)
          refine ga_aload_n 0 dX10_see_77 rfl ?_
          refine ga_get kf_X10_42 (sh161 _) rfl dX10_see_78 ?_
          refine ga_iconst (nI 3) dX10_see_81 (by decide) ?_
          refine ga_aload_n 0 dX10_see_82 rfl ?_
          refine ga_get kf_X10_78 (sh161 _) (gv (show w_76 161 15 = nI (Q 0 1) from by rw [o_76 161 (by decide), o_62 161 (by decide)]; exact hQ.1.2.1)) dX10_see_83 ?_
          refine ga_imul dX10_see_86 ?_
          refine ga_iconst (nI 2) dX10_see_87 (by decide) ?_
          refine ga_iadd dX10_see_88 ?_
          refine ga_iload_n 3 dX10_see_89 rfl ?_
          refine gw_iast (sh171) (k := 3 * Q 0 1 + 2) (gt_ixe (show nI 3 * nI (Q 0 1) + nI 2 = nI (3 * Q 0 1 + 2) by rw [pk_mul, nI_add]) (by omega) (by decide)) dX10_see_90 (fun w_90 o_90 e_90 => ?_)
          refine ga_aload_n 0 dX10_see_91 rfl ?_
          refine ga_dup dX10_see_92 rfl ?_
          refine ga_get kf_X10_78 (sh161 _) (gv (show w_90 161 15 = nI (Q 0 1) from by rw [o_90 161 (by decide), o_76 161 (by decide), o_62 161 (by decide)]; exact hQ.1.2.1)) dX10_see_93 ?_
          refine ga_iconst (nI 1) dX10_see_96 (by decide) ?_
          refine ga_iadd dX10_see_97 ?_
          refine gw_put 15 kp_X10_78 (sh161 _) (sh161 _) rfl rfl (Nat.le_of_ble_eq_true rfl) dX10_see_98 (fun w_98 o_98 e_98 => ?_)
          refine ga_aload_n 0 dX10_see_101 rfl ?_
          refine ga_get kf_X10_78 (sh161 _) (gv (show w_98 161 15 = nI (Q 0 1 + 1) by rw [e_98, upd_eq, nI_add])) dX10_see_102 ?_
          exact gd_iret dX10_see_105 ⟨gv (by unfold aSee; rw [if_neg (fun q => q.elim c_9 (fun q => q.elim c_21 c_33)), if_neg hfu]), (by rw [nSee_g (fun q => q.elim (fun q => q.elim c_9 (fun q => q.elim c_21 c_33)) hfu), ek, eu, ev]; exact gx_M_notes hX (fun b h1 h2 h3 h4 => by rw [o_98 b h1, o_90 b h3, o_76 b h3, o_62 b h3]) (fun q h1 h2 h3 => by rw [e_98, upd_ne _ _ h2, o_90 161 (by decide), o_76 161 (by decide), o_62 161 (by decide)]) (gx_mn_see hQ (by rw [e_98, upd_ne _ _ (by decide), o_90 161 (by decide), o_76 161 (by decide), o_62 161 (by decide)]) (by rw [e_98, upd_eq, nI_add]) (by rw [e_98, upd_ne _ _ (by decide), o_90 161 (by decide), o_76 161 (by decide), o_62 161 (by decide)]) (by rw [o_98 171 (by decide), e_90, e_76, e_62]) (by rw [o_98 170 (by decide), o_90 170 (by decide), o_76 170 (by decide), o_62 170 (by decide)]) (by rw [o_98 172 (by decide), o_90 172 (by decide), o_76 172 (by decide), o_62 172 (by decide)]))), fun a ha => by rw [o_98 a (by omega), o_90 a (by omega), o_76 a (by omega), o_62 a (by omega)]⟩
        · have hfu : Q 0 1 = 6 := (nI_eq (by have := qw.1; omega) (by decide)).mp c_45
          refine ga_ldc kc_X10_90 dX10_see_48 ?_
          exact gd_iret dX10_see_50 ⟨gv (by unfold aSee; rw [if_neg (fun q => q.elim c_9 (fun q => q.elim c_21 c_33)), if_pos hfu]), (by rw [nSee_k (Or.inr hfu)]; exact hX), fun _ _ => rfl⟩
      · have hno : gx_wi a9 (nI 0) (nI 99) = 0 ∨ gx_wi b9 (nI 0) (nI 9) = 0 ∨ gx_wi d9 (nI 0) (nI 99) = 0 := Or.inr (Or.inr c_33)
        refine ga_ldc kc_X10_86 dX10_see_36 ?_
        exact gd_iret dX10_see_38 ⟨gv (by unfold aSee; rw [if_pos hno]), (by rw [nSee_k (Or.inl hno)]; exact hX), fun _ _ => rfl⟩
set_option maxRecDepth 100000 in
set_option maxHeartbeats 4000000 in
theorem c_X10_write {l : Launch} {G : gt_G} {n : Nat} {w : gt_W} {K V : gx_K} {m : Int32} {hs : Nat → gx_K × Int32} {cnt : Nat} {im : Nat → Nat × (gx_K × Int32) × Nat} {sd : Nat} {x : Nat → Nat} {L fp : Nat} {Q : gx_K} (hX : gx_M w K V m hs cnt im sd x L fp Q) (hW : gx_WF K V m hs cnt im sd x L fp Q) (a9 b9 : Int32) : gt_D l G yX10_write cX10_write 3 (some .int) 3 n [.ref 161, .int a9, .int b9] w (fun r w' => r = some (.int (aWrite K Q a9 b9)) ∧ gx_MZ w' (nWrite (K, (V, m), hs, cnt, im, sd, x, L, fp, Q) a9 b9) ∧ ∀ a, a < 161 → w' a = w a) := by
  obtain ⟨hM, hV, hpast, him, hsd, htx, hfp, hQ⟩ := id hX
  obtain ⟨kw, vw, vd, hhr, hcnt, hhs, him2, hsd2, hxL, hfp2, qw⟩ := id hW
  refine gt_D_of (own := RX10) (nm := "write") rfl rfl (by decide +kernel) (Nat.le_of_ble_eq_true rfl) ?_
  show gt_A _ _ _ _ _ _ _ _ _ _ _ [(0, .ref 161), (1, .int a9), (2, .int b9)] _ _
  refine ga_aload_n 0 dX10_write_0 rfl ?_
  refine ga_iload_n 1 dX10_write_1 rfl ?_
  refine ga_V1 km_X10_188 kv_X10_isCell (c_X10_isCell hM kw a9) (sh161 _) rfl rfl (gt_rc0 (by decide)) (Nat.le_of_ble_eq_true rfl) dX10_write_2 ?_
  refine ga_if_ne 11 dX10_write_5 (by decide) (fun c_5 => ?_) (fun c_5 => ?_)
  · obtain ⟨k, hk, rfl⟩ := gx_in_of (by have := kw.1; have := kw.2.1; have := kw.2.2.1; have := kw.2.2.2.1; omega) c_5
    have ek : (nI k).toNatClampNeg = k := nI_clamp (by have := kw.1; have := kw.2.1; have := kw.2.2.1; have := kw.2.2.2.1; omega)
    refine ga_iload_n 2 dX10_write_11 rfl ?_
    refine ga_i2l dX10_write_12 ?_
    refine ga_lconst 0 dX10_write_13 (by decide) ?_
    refine ga_ldc2_w kc_X10_282 dX10_write_14 ?_
    refine ga_S3 km_X10_64 kv_X10_in (c_X10_in (x := b9) (a := nI 0) (b := nI 999) rfl (by decide) (by decide)) (gt_rc0 (by decide)) (Nat.le_of_ble_eq_true rfl) dX10_write_17 ?_
    refine ga_if_ne 26 dX10_write_20 (by decide) (fun c_20 => ?_) (fun c_20 => ?_)
    · obtain ⟨u, hul, hu, rfl⟩ := gx_wi_of (by decide) (by decide) c_20
      have eu : (nI u).toNatClampNeg = u := nI_clamp (by omega)
      refine ga_aload_n 0 dX10_write_26 rfl ?_
      refine ga_get kf_X10_81 (sh161 _) (gv hQ.1.2.2) dX10_write_27 ?_
      refine ga_bipush (nI 15) dX10_write_30 (by decide) ?_
      refine ga_icmp_ne 38 dX10_write_32 (by decide) (fun c_32 => ?_) (fun c_32 => ?_)
      · have hfu : ¬ Q 0 2 = 15 := fun q => c_32 (by rw [q])
        have hlt : Q 0 2 < 15 := by have := qw.1; omega
        refine ga_aload_n 0 dX10_write_38 rfl ?_
        refine ga_get kf_X10_45 (sh161 _) rfl dX10_write_39 ?_
        refine ga_iconst (nI 2) dX10_write_42 (by decide) ?_
        refine ga_aload_n 0 dX10_write_43 rfl ?_
        refine ga_get kf_X10_81 (sh161 _) (gv (show w 161 17 = nI (Q 0 2) from hQ.1.2.2)) dX10_write_44 ?_
        refine ga_imul dX10_write_47 ?_
        refine ga_iload_n 1 dX10_write_48 rfl ?_
        refine gw_iast (sh172) (k := 2 * Q 0 2) (gt_ixe (pk_mul _ _) (by omega) (by decide)) dX10_write_49 (fun w_49 o_49 e_49 => ?_)
        refine ga_aload_n 0 dX10_write_50 rfl ?_
        refine ga_get kf_X10_45 (sh161 _) rfl dX10_write_51 ?_
        refine ga_iconst (nI 2) dX10_write_54 (by decide) ?_
        refine ga_aload_n 0 dX10_write_55 rfl ?_
        refine ga_get kf_X10_81 (sh161 _) (gv (show w_49 161 17 = nI (Q 0 2) from by rw [o_49 161 (by decide)]; exact hQ.1.2.2)) dX10_write_56 ?_
        refine ga_imul dX10_write_59 ?_
        refine ga_iconst (nI 1) dX10_write_60 (by decide) ?_
        refine ga_iadd dX10_write_61 ?_
        refine ga_iload_n 2 dX10_write_62 rfl ?_
        refine gw_iast (sh172) (k := 2 * Q 0 2 + 1) (gt_ixe (show nI 2 * nI (Q 0 2) + nI 1 = nI (2 * Q 0 2 + 1) by rw [pk_mul, nI_add]) (by omega) (by decide)) dX10_write_63 (fun w_63 o_63 e_63 => ?_)
        refine ga_aload_n 0 dX10_write_64 rfl ?_
        refine ga_dup dX10_write_65 rfl ?_
        refine ga_get kf_X10_81 (sh161 _) (gv (show w_63 161 17 = nI (Q 0 2) from by rw [o_63 161 (by decide), o_49 161 (by decide)]; exact hQ.1.2.2)) dX10_write_66 ?_
        refine ga_iconst (nI 1) dX10_write_69 (by decide) ?_
        refine ga_iadd dX10_write_70 ?_
        refine gw_put 17 kp_X10_81 (sh161 _) (sh161 _) rfl rfl (Nat.le_of_ble_eq_true rfl) dX10_write_71 (fun w_71 o_71 e_71 => ?_)
        refine ga_aload_n 0 dX10_write_74 rfl ?_
        refine ga_get kf_X10_81 (sh161 _) (gv (show w_71 161 17 = nI (Q 0 2 + 1) by rw [e_71, upd_eq, nI_add])) dX10_write_75 ?_
        exact gd_iret dX10_write_78 ⟨gv (by unfold aWrite; rw [if_neg c_5, if_neg c_20, if_neg hfu]), (by rw [nWrite_g (fun q => q.elim (fun q => q.elim c_5 c_20) hfu), ek, eu]; exact gx_M_notes hX (fun b h1 h2 h3 h4 => by rw [o_71 b h1, o_63 b h4, o_49 b h4]) (fun q h1 h2 h3 => by rw [e_71, upd_ne _ _ h3, o_63 161 (by decide), o_49 161 (by decide)]) (gx_mn_write hQ (by rw [e_71, upd_ne _ _ (by decide), o_63 161 (by decide), o_49 161 (by decide)]) (by rw [e_71, upd_ne _ _ (by decide), o_63 161 (by decide), o_49 161 (by decide)]) (by rw [e_71, upd_eq, nI_add]) (by rw [o_71 172 (by decide), e_63, e_49]) (by rw [o_71 170 (by decide), o_63 170 (by decide), o_49 170 (by decide)]) (by rw [o_71 171 (by decide), o_63 171 (by decide), o_49 171 (by decide)]))), fun a ha => by rw [o_71 a (by omega), o_63 a (by omega), o_49 a (by omega)]⟩
      · have hfu : Q 0 2 = 15 := (nI_eq (by have := qw.1; omega) (by decide)).mp c_32
        refine ga_ldc kc_X10_90 dX10_write_35 ?_
        exact gd_iret dX10_write_37 ⟨gv (by unfold aWrite; rw [if_neg c_5, if_neg c_20, if_pos hfu]), (by rw [nWrite_k (Or.inr hfu)]; exact hX), fun _ _ => rfl⟩
    · refine ga_ldc kc_X10_86 dX10_write_23 ?_
      exact gd_iret dX10_write_25 ⟨gv (by unfold aWrite; rw [if_neg c_5, if_pos c_20]), (by rw [nWrite_k (Or.inl (Or.inr c_20))]; exact hX), fun _ _ => rfl⟩
  · refine ga_ldc kc_X10_191 dX10_write_8 ?_
    exact gd_iret dX10_write_10 ⟨gv (by unfold aWrite; rw [if_pos c_5]), (by rw [nWrite_k (Or.inl (Or.inl c_5))]; exact hX), fun _ _ => rfl⟩
