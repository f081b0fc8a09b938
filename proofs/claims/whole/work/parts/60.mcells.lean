/-! cells, clauses, by the reference -/
theorem gx_cs_k {x : Nat → Nat} {L : Nat} : ∀ k (s : gx_T) (K : gx_K), ¬ s.2.1 = 0 → (gx_cs x L k s K).1.2 = s.2
  | 0, s, K, h => rfl
  | k + 1, s, K, h => by
    unfold gx_cs
    split
    · have e1 : (gx_sgn x L (gx_skip x L s.1, s.2) 44).2 = s.2 := gx_sgn_k (s := (gx_skip x L s.1, s.2)) h
      have e2 : (gx_num x L (gx_sgn x L (gx_skip x L s.1, s.2) 44) 0 60).2 = s.2 := (gx_num_k (by rw [e1]; exact h)).trans e1
      exact (gx_cs_k k _ _ (by rw [e2]; exact h)).trans e2
    · rfl
theorem gx_ce_k {x : Nat → Nat} {L : Nat} {s : gx_T} {K : gx_K} (h : ¬ (gx_ce0 x L s K).1.2.1 = 0) : (gx_ce x L s K).2 = (gx_ce0 x L s K).1.2 := by
  unfold gx_ce
  by_cases q : (gx_ce0 x L s K).2 0 0 < 2
  · rw [if_pos q, gx_fl_k h]; exact gx_sgn_k h
  · rw [if_neg q]; exact gx_sgn_k h
theorem gx_ce_end {x : Nat → Nat} {L b : Nat} {s q : gx_T} {K K2 : gx_K} (hC : gx_ce0 x L s K = (q, K2)) (hq : q.2.1 = 0) (hsk : gx_skip x L q.1 = b) (h1 : K2 0 0 < 2 → q.1 = b) : (1 < K2 0 0 ∧ b < L ∧ x b = 59 → gx_ce x L s K = (b + 1, q.2)) ∧ (¬ (1 < K2 0 0 ∧ b < L ∧ x b = 59) → (gx_ce x L s K).2 = (1, b + 1)) := by
  unfold gx_ce
  rw [hC]
  show (_ → gx_sgn x L (if K2 0 0 < 2 then gx_fl q 1 q.1 else q) 59 = _) ∧ (_ → (gx_sgn x L (if K2 0 0 < 2 then gx_fl q 1 q.1 else q) 59).2 = _)
  refine ⟨fun h => ?_, fun h => ?_⟩
  · rw [if_neg (by omega)]
    unfold gx_sgn
    rw [hsk, if_pos h.2]
  · by_cases c : K2 0 0 < 2
    · rw [if_pos c, gx_fl_g hq, h1 c]
      exact gx_sgn_k (s := (b, 1, b + 1)) (by simp)
    · rw [if_neg c]
      unfold gx_sgn
      rw [hsk, if_neg (fun z => h ⟨by omega, z⟩), gx_fl_g (s := (b, q.2)) hq]
theorem gx_ce_no {x : Nat → Nat} {L : Nat} {s : gx_T} {K : gx_K} (hs : s.2.1 = 0) (hp : gx_skip x L s.1 = s.1) (h : ¬ x s.1 = 99) : (gx_ce x L s K).2 = (1, s.1 + 1) := by
  have e1 : gx_sgn x L s 99 = (s.1, 1, s.1 + 1) := by
    unfold gx_sgn
    rw [hp, if_neg (fun z => h z.2), gx_fl_g (s := (s.1, s.2)) hs]
  have e2 : (gx_num x L (gx_sgn x L s 99) 0 60).2 = (1, s.1 + 1) := by
    rw [gx_num_k (by rw [e1]; simp), e1]
  have e3 : (gx_ce0 x L s K).1.2 = (1, s.1 + 1) := by
    unfold gx_ce0
    rw [gx_cs_k 9 _ _ (by rw [e2]; simp), e2]
  rw [gx_ce_k (by rw [e3]; simp), e3]
set_option maxRecDepth 100000 in
set_option maxHeartbeats 4000000 in
theorem c_X10_readsCells_full {l : Launch} {G : gt_G} {n : Nat} {w : gt_W} {K : gx_K} (hK : gx_mc (w 163) K) (h0 : 0 < K 0 0) (h1 : K 0 0 ≤ 10) : gt_D l G yX10_readsCells cX10_readsCells 2 (some .boolean) 2 n [.ref 161] w (fun r w' => r = some (.int (nI 0)) ∧ (∀ c, c ≠ 161 → w' c = w c) ∧ w' 161 = upd (w 161) 23 (nI 3)) := by
  refine gt_D_of (own := RX10) (nm := "readsCells") rfl rfl (by decide +kernel) (Nat.le_of_ble_eq_true rfl) ?_
  show gt_A _ _ _ _ _ _ _ _ _ _ _ [(0, .ref 161)] _ _
  refine ga_aload_n 0 dX10_readsCells_0 rfl ?_
  refine ga_get kf_X10_13 (sh161 _) rfl dX10_readsCells_1 ?_
  refine ga_iconst (nI 0) dX10_readsCells_4 (by decide) ?_
  refine ge_ialdE sh163 (gt_ixn (by decide)) (hK.1 0 (by decide)) dX10_readsCells_5 ?_
  refine ga_if_le 15 dX10_readsCells_6 (by decide) (fun c_6 => absurd c_6 (nI_nle h0 (by omega))) (fun c_6 => ?_)
  refine ga_aload_n 0 dX10_readsCells_9 rfl ?_
  refine ga_iconst (nI 3) dX10_readsCells_10 (by decide) ?_
  refine gd_V1 km_X10_120 kv_X10_fails c_X10_fails (sh161 _) rfl rfl (gt_rc0 (by decide)) (Nat.le_of_ble_eq_true rfl) dX10_readsCells_11 (fun r_11 w_11 q_11 => ?_)
  obtain ⟨rfl, oF, eF⟩ := q_11
  exact gd_zret dX10_readsCells_14 (by decide) ⟨rfl, oF, eF⟩
set_option maxRecDepth 100000 in
set_option maxHeartbeats 4000000 in
theorem c_X10_readsCells {l : Launch} {G : gt_G} {n : Nat} {w : gt_W} {x : Nat → Nat} {L : Nat} {s : gx_T} {K : gx_K} (hR : gx_Rt w x L (s.1 + 1)) (h19 : w 161 19 = nI s.1) (hx : gx_Tx x L) (hs : s.2.1 = 0) (hp : gx_skip x L s.1 = s.1) (hlt : s.1 < L) (hc : x s.1 = 99) (hK : gx_mc (w 163) K) (h00 : K 0 0 = 0) (hzz : K 0 1 = 0 ∧ K 0 2 = 0 ∧ K 0 3 = 0) : gt_D l G yX10_readsCells cX10_readsCells 2 (some .boolean) 4 n [.ref 161] w (fun r w' => gx_rf w w' ∧ gx_ro r w' (gx_ce x L s K) ∧ ((gx_ce x L s K).2.1 = 0 → gx_mc (w' 163) (gx_ce0 x L s K).2)) := by
  have hat : gx_sgn x L s 99 = (s.1 + 1, s.2) := gx_sgn_at hp hlt hc
  refine gt_D_of (own := RX10) (nm := "readsCells") rfl rfl (by decide +kernel) (Nat.le_of_ble_eq_true rfl) ?_
  show gt_A _ _ _ _ _ _ _ _ _ _ _ [(0, .ref 161)] _ _
  refine ga_aload_n 0 dX10_readsCells_0 rfl ?_
  refine ga_get kf_X10_13 (sh161 _) rfl dX10_readsCells_1 ?_
  refine ga_iconst (nI 0) dX10_readsCells_4 (by decide) ?_
  refine ge_ialdE sh163 (gt_ixn (by decide)) (hK.1 0 (by decide)) dX10_readsCells_5 ?_
  refine ga_if_le 15 dX10_readsCells_6 (by decide) (fun c_6 => ?_) (fun c_6 => absurd (show nI (K 0 0) ≤ 0 by rw [h00]; decide) c_6)
  refine ga_iconst (nI 1) dX10_readsCells_15 (by decide) ?_
  refine gs_istore_n [(0, _), (1, _)] dX10_readsCells_16 (by decide) rfl rfl ?_
  have loop : ∀ j i, i + j = 9 →  ∀ (s1 : gx_T) (K1 : gx_K) (w1 : gt_W), gx_ce0 x L s K = gx_cs x L (9 - i) (gx_num x L s1 0 60) (gx_up (gx_up K1 1 i (gx_nv x L s1)) 0 0 (i + 1)) → gx_rf w w1 → gx_Rt w1 x L s1.1 → s1.1 ≤ L → s1.2.1 = 0 → gx_mc (w1 163) K1 → K1 0 0 = i → (K1 0 1 = 0 ∧ K1 0 2 = 0 ∧ K1 0 3 = 0) → gt_A l G RX10 "readsCells" cX10_readsCells 2 (some .boolean) (gt_rm 4 0 0) (gt_ZD G n (fun r w' => gx_rf w w' ∧ gx_ro r w' (gx_ce x L s K) ∧ ((gx_ce x L s K).2.1 = 0 → gx_mc (w' 163) (gx_ce0 x L s K).2))) (n, 0, 0) 17 [(0, .ref 161), (1, .int (nI 1))] [] (gt_enc w1) := by
    intro j
    induction j with
    | zero =>
      intro i ht s1 K1 w1 hE hf hR1 hl1 hs1 hK1 hi hz
      refine ga_iload_n 1 dX10_readsCells_17 rfl ?_
      refine ga_if_eq 91 dX10_readsCells_18 (by decide) (fun c_18 => absurd c_18 (by decide)) (fun c_18 => ?_)
      refine ga_aload_n 0 dX10_readsCells_21 rfl ?_
      refine ga_iconst (nI 4) dX10_readsCells_22 (by decide) ?_
      refine ga_aload_n 0 dX10_readsCells_23 rfl ?_
      refine ga_get kf_X10_13 (sh161 _) rfl dX10_readsCells_24 ?_
      refine ga_iconst (nI 0) dX10_readsCells_27 (by decide) ?_
      refine ge_ialdE sh163 (gt_ixn (by decide)) (hK1.1 0 (by decide)) dX10_readsCells_28 ?_
      refine ga_top (nI i) (by rw [hi]) ?_
      refine ga_iadd dX10_readsCells_29 ?_
      refine ga_top (nI (4 + i)) (nI_add 4 i) ?_
      refine ga_iconst (nI 0) dX10_readsCells_30 (by decide) ?_
      refine ga_bipush (nI 60) dX10_readsCells_31 (by decide) ?_
      refine gd_V3 km_X10_124 kv_X10_number (c_X10_number (s := s1) (pl := 4 + i) (lo := 0) (hi := 60) hR1 hx hl1 hs1 (by omega) (by omega) (by omega)) (sh161 _) rfl rfl (gt_rc0 (by decide)) (Nat.le_of_ble_eq_true rfl) dX10_readsCells_33 (fun r_33 w_33 q_33 => ?_)
      obtain ⟨f33, ⟨rfl, ok, no⟩, hv⟩ := q_33
      refine ga_if_ne 41 dX10_readsCells_36 (by decide) (fun c_36 => ?_) (fun c_36 => ?_)
      · have k1 := gx_if0 c_36
        have hv := hv k1
        have ok := ok k1
        refine ga_aload_n 0 dX10_readsCells_41 rfl ?_
        refine ga_get kf_X10_13 (sh161 _) rfl dX10_readsCells_42 ?_
        refine ga_iconst (nI 0) dX10_readsCells_45 (by decide) ?_
        refine ga_dup2 dX10_readsCells_46 rfl rfl ?_
        refine ge_ialdE sh163 (gt_ixn (by decide)) (show w_33 163 0 = nI i by rw [hv, upd_ne _ _ (by omega), hK1.1 0 (by decide), hi]) dX10_readsCells_47 ?_
        refine ga_iconst (nI 1) dX10_readsCells_48 (by decide) ?_
        refine ga_iadd dX10_readsCells_49 ?_
        refine gw_iast (sh163) (k := 0) (gt_ixn (by decide)) dX10_readsCells_50 (fun w_50 o_50 e_50 => ?_)
        have f50 : gx_rf w1 w_50 := gx_rf_tr f33 ⟨fun c h1 h2 => o_50 c h2, fun q _ => congrFun (o_50 161 (by decide)) q⟩
        have hK2 : gx_mc (w_50 163) (gx_up (gx_up K1 1 i (gx_nv x L s1)) 0 0 (i + 1)) := by
          have h9 := gx_mc_ce (v0 := gx_nv x L s1) hK1 (by omega) (by omega)
          rw [hi] at h9
          rw [e_50, hv, nI_add]
          exact h9
        have hl2 : (gx_num x L s1 0 60).1 ≤ L := gx_num_L hl1 _ _
        have hR2 : gx_Rt w_50 x L (gx_num x L s1 0 60).1 := gx_Rt_rf hR1 f50 (by rw [o_50 161 (by decide)]; exact ok)
        obtain ⟨b, hb⟩ : ∃ b, b = gx_skip x L (gx_num x L s1 0 60).1 := ⟨_, rfl⟩
        have hbL : b ≤ L := by rw [hb]; exact (gx_skip_b (L - (gx_num x L s1 0 60).1) (gx_num x L s1 0 60).1 (by omega)).2
        refine ga_aload_n 0 dX10_readsCells_51 rfl ?_
        refine gd_V0 km_X10_117 kv_X10_step (c_X10_step hR2 hx hl2) (sh161 _) rfl rfl (gt_rc0 (by decide)) (Nat.le_of_ble_eq_true rfl) dX10_readsCells_52 (fun r_52 w_52 q_52 => ?_)
        obtain ⟨rfl, oS, eS, hTk⟩ := q_52
        rw [← hb] at hTk
        have fS : gx_rf w_50 w_52 := ⟨fun c h1 _ => oS c h1, fun q hq => eS q (by omega)⟩
        have hK3 : gx_mc (w_52 163) (gx_up (gx_up K1 1 i (gx_nv x L s1)) 0 0 (i + 1)) := by rw [oS 163 (by decide)]; exact hK2
        have c00 : (gx_up (gx_up K1 1 i (gx_nv x L s1)) 0 0 (i + 1)) 0 0 = i + 1 := gx_up_eq _ _ _ _
        refine ga_aload_n 0 dX10_readsCells_55 rfl ?_
        refine ga_get kf_X10_101 (sh161 _) (gv hTk.2.1) dX10_readsCells_56 ?_
        refine ga_bipush (nI 44) dX10_readsCells_59 (by decide) ?_
        refine ga_icmp_ne 68 dX10_readsCells_61 (by decide) (fun c_61 => ?_) (fun c_61 => ?_)
        · have hnc : ¬ (b < L ∧ x b = 44) := fun q => c_61 ((gx_sv_c hx (Or.inl (by decide)) (by decide)).mpr q)
          have hC : gx_ce0 x L s K = ((gx_num x L s1 0 60), (gx_up (gx_up K1 1 i (gx_nv x L s1)) 0 0 (i + 1))) := by rw [hE, show 9 - i = 0 by omega]; rfl
          have k1z : (gx_num x L s1 0 60).2.1 = 0 := k1
          have hend9 := gx_ce_end hC k1z hb.symm (fun z => by rw [c00] at z; omega)
          refine ga_iconst (nI 0) dX10_readsCells_68 (by decide) ?_
          refine gs_istore_n [(0, _), (1, _)] dX10_readsCells_69 (by decide) rfl rfl ?_
          refine ga_iload_n 1 dX10_readsCells_70 rfl ?_
          refine ga_if_eq 17 dX10_readsCells_71 (by decide) (fun c_71 => ?_) (fun c_71 => absurd nI_0 c_71)
          refine ga_iload_n 1 dX10_readsCells_17 rfl ?_
          refine ga_if_eq 91 dX10_readsCells_18 (by decide) (fun c_18 => ?_) (fun c_18 => absurd nI_0 c_18)
          refine ga_aload_n 0 dX10_readsCells_91 rfl ?_
          refine ga_get kf_X10_101 (sh161 _) (gv hTk.2.1) dX10_readsCells_92 ?_
          refine ga_bipush (nI 59) dX10_readsCells_95 (by decide) ?_
          refine ga_icmp_ne 110 dX10_readsCells_97 (by decide) (fun c_97 => ?_) (fun c_97 => ?_)
          · have hno := hend9.2 (fun z => c_97 ((gx_sv_c hx (Or.inr (by decide)) (by decide)).mpr z.2))
            refine ga_aload_n 0 dX10_readsCells_110 rfl ?_
            refine ga_iconst (nI 1) dX10_readsCells_111 (by decide) ?_
            refine gd_V1 km_X10_120 kv_X10_fails c_X10_fails (sh161 _) rfl rfl (gt_rc0 (by decide)) (Nat.le_of_ble_eq_true rfl) dX10_readsCells_112 (fun r_112 w_112 q_112 => ?_)
            obtain ⟨rfl, oF, eF⟩ := q_112
            have hend : gx_rf w w_112 ∧ gx_ro (some (.int (nI 0))) w_112 (gx_ce x L s K) ∧ ((gx_ce x L s K).2.1 = 0 → gx_mc (w_112 163) (gx_ce0 x L s K).2) := ⟨gx_rf_tr hf (gx_rf_tr f50 (gx_rf_tr fS ⟨fun c h1 _ => oF c h1, fun q hq => by rw [eF, upd_ne _ _ (by omega)]⟩)), gx_ro_fail (s := (gx_ce x L s K)) rfl (by rw [hno]; simp) (by rw [hno]; exact ⟨by rw [eF, upd_eq], by rw [eF, upd_ne _ _ (by decide)]; exact hTk.1.trans (gx_seat_s b).symm⟩), fun q => absurd q (by rw [hno]; simp)⟩
            refine ga_if_eq 122 dX10_readsCells_115 (by decide) (fun c_115 => ?_) (fun c_115 => absurd nI_0 c_115)
            refine ga_iconst (nI 0) dX10_readsCells_122 (by decide) ?_
            exact gd_zret dX10_readsCells_123 (by decide) hend
          · have h59 := (gx_sv_c hx (Or.inr (by decide)) (by decide)).mp c_97
            refine ga_aload_n 0 dX10_readsCells_100 rfl ?_
            refine ga_get kf_X10_13 (sh161 _) rfl dX10_readsCells_101 ?_
            refine ga_iconst (nI 0) dX10_readsCells_104 (by decide) ?_
            refine ge_ialdE sh163 (gt_ixn (by decide)) (hK3.1 0 (by decide)) dX10_readsCells_105 ?_
            refine ga_top (nI (i + 1)) (by rw [c00]) ?_
            refine ga_iconst (nI 1) dX10_readsCells_106 (by decide) ?_
            refine ga_icmp_gt 118 dX10_readsCells_107 (by decide) (fun c_107 => ?_) (fun c_107 => ?_)
            · have hyes := hend9.1 ⟨by rw [c00]; exact (nI_ltI (by decide) (by omega)).mp c_107, h59⟩
              have hend : gx_rf w w_52 ∧ gx_ro (some (.int (nI 1))) w_52 (gx_ce x L s K) ∧ ((gx_ce x L s K).2.1 = 0 → gx_mc (w_52 163) (gx_ce0 x L s K).2) := ⟨gx_rf_tr hf (gx_rf_tr f50 fS), gx_ro_ok (by rw [hyes]; exact k1z) (by rw [hyes, hTk.2.2.1, gx_nx_c (Or.inr (by decide)) h59]), fun _ => by rw [hC]; exact hK3⟩
              refine ga_iconst (nI 1) dX10_readsCells_118 (by decide) ?_
              refine ga_goto 123 dX10_readsCells_119 (by decide) ?_
              exact gd_zret dX10_readsCells_123 (by decide) hend
            · have hno := hend9.2 (fun z => c_107 (nI_lt (by rw [c00] at z; exact z.1) (by omega)))
              refine ga_aload_n 0 dX10_readsCells_110 rfl ?_
              refine ga_iconst (nI 1) dX10_readsCells_111 (by decide) ?_
              refine gd_V1 km_X10_120 kv_X10_fails c_X10_fails (sh161 _) rfl rfl (gt_rc0 (by decide)) (Nat.le_of_ble_eq_true rfl) dX10_readsCells_112 (fun r_112 w_112 q_112 => ?_)
              obtain ⟨rfl, oF, eF⟩ := q_112
              have hend : gx_rf w w_112 ∧ gx_ro (some (.int (nI 0))) w_112 (gx_ce x L s K) ∧ ((gx_ce x L s K).2.1 = 0 → gx_mc (w_112 163) (gx_ce0 x L s K).2) := ⟨gx_rf_tr hf (gx_rf_tr f50 (gx_rf_tr fS ⟨fun c h1 _ => oF c h1, fun q hq => by rw [eF, upd_ne _ _ (by omega)]⟩)), gx_ro_fail (s := (gx_ce x L s K)) rfl (by rw [hno]; simp) (by rw [hno]; exact ⟨by rw [eF, upd_eq], by rw [eF, upd_ne _ _ (by decide)]; exact hTk.1.trans (gx_seat_s b).symm⟩), fun q => absurd q (by rw [hno]; simp)⟩
              refine ga_if_eq 122 dX10_readsCells_115 (by decide) (fun c_115 => ?_) (fun c_115 => absurd nI_0 c_115)
              refine ga_iconst (nI 0) dX10_readsCells_122 (by decide) ?_
              exact gd_zret dX10_readsCells_123 (by decide) hend
        · have hcm := (gx_sv_c hx (Or.inl (by decide)) (by decide)).mp c_61
          have hC : gx_ce0 x L s K = ((gx_num x L s1 0 60), (gx_up (gx_up K1 1 i (gx_nv x L s1)) 0 0 (i + 1))) := by rw [hE, show 9 - i = 0 by omega]; rfl
          have k1z : (gx_num x L s1 0 60).2.1 = 0 := k1
          have hno := (gx_ce_end hC k1z hb.symm (fun z => by rw [c00] at z; omega)).2 (fun z => by have := z.2.2; have := hcm.2; omega)
          refine ga_iconst (nI 1) dX10_readsCells_64 (by decide) ?_
          refine ga_goto 69 dX10_readsCells_65 (by decide) ?_
          refine gs_istore_n [(0, _), (1, _)] dX10_readsCells_69 (by decide) rfl rfl ?_
          refine ga_iload_n 1 dX10_readsCells_70 rfl ?_
          refine ga_if_eq 17 dX10_readsCells_71 (by decide) (fun c_71 => absurd c_71 (by decide)) (fun c_71 => ?_)
          refine ga_aload_n 0 dX10_readsCells_74 rfl ?_
          refine ga_get kf_X10_13 (sh161 _) rfl dX10_readsCells_75 ?_
          refine ga_iconst (nI 0) dX10_readsCells_78 (by decide) ?_
          refine ge_ialdE sh163 (gt_ixn (by decide)) (hK3.1 0 (by decide)) dX10_readsCells_79 ?_
          refine ga_top (nI (i + 1)) (by rw [c00]) ?_
          refine ga_bipush (nI 10) dX10_readsCells_80 (by decide) ?_
          refine ga_icmp_ne 17 dX10_readsCells_82 (by decide) (fun c_82 => absurd (show nI (i + 1) = nI 10 by rw [show i + 1 = 10 by omega]) c_82) (fun c_82 => ?_)
          refine ga_aload_n 0 dX10_readsCells_85 rfl ?_
          refine ga_iconst (nI 1) dX10_readsCells_86 (by decide) ?_
          refine gd_V1 km_X10_120 kv_X10_fails c_X10_fails (sh161 _) rfl rfl (gt_rc0 (by decide)) (Nat.le_of_ble_eq_true rfl) dX10_readsCells_87 (fun r_87 w_87 q_87 => ?_)
          obtain ⟨rfl, oF, eF⟩ := q_87
          exact gd_zret dX10_readsCells_90 (by decide) ⟨gx_rf_tr hf (gx_rf_tr f50 (gx_rf_tr fS ⟨fun c h1 _ => oF c h1, fun q hq => by rw [eF, upd_ne _ _ (by omega)]⟩)), gx_ro_fail (s := (gx_ce x L s K)) rfl (by rw [hno]; simp) (by rw [hno]; exact ⟨by rw [eF, upd_eq], by rw [eF, upd_ne _ _ (by decide)]; exact hTk.1.trans (gx_seat_s b).symm⟩), fun q => absurd q (by rw [hno]; simp)⟩
      · have k1 := gx_if1 c_36
        have he0 : (gx_ce0 x L s K).1.2 = (gx_num x L s1 0 60).2 := by rw [hE]; exact gx_cs_k _ _ _ k1
        have he : (gx_ce x L s K).2 = (gx_num x L s1 0 60).2 := (gx_ce_k (by rw [he0]; exact k1)).trans he0
        refine ga_iconst (nI 0) dX10_readsCells_39 (by decide) ?_
        exact gd_zret dX10_readsCells_40 (by decide) ⟨gx_rf_tr hf f33, gx_ro_fail he k1 (no k1), fun q => absurd (show (gx_num x L s1 0 60).2.1 = 0 by rw [← he]; exact q) k1⟩
    | succ j ih =>
      intro i ht s1 K1 w1 hE hf hR1 hl1 hs1 hK1 hi hz
      refine ga_iload_n 1 dX10_readsCells_17 rfl ?_
      refine ga_if_eq 91 dX10_readsCells_18 (by decide) (fun c_18 => absurd c_18 (by decide)) (fun c_18 => ?_)
      refine ga_aload_n 0 dX10_readsCells_21 rfl ?_
      refine ga_iconst (nI 4) dX10_readsCells_22 (by decide) ?_
      refine ga_aload_n 0 dX10_readsCells_23 rfl ?_
      refine ga_get kf_X10_13 (sh161 _) rfl dX10_readsCells_24 ?_
      refine ga_iconst (nI 0) dX10_readsCells_27 (by decide) ?_
      refine ge_ialdE sh163 (gt_ixn (by decide)) (hK1.1 0 (by decide)) dX10_readsCells_28 ?_
      refine ga_top (nI i) (by rw [hi]) ?_
      refine ga_iadd dX10_readsCells_29 ?_
      refine ga_top (nI (4 + i)) (nI_add 4 i) ?_
      refine ga_iconst (nI 0) dX10_readsCells_30 (by decide) ?_
      refine ga_bipush (nI 60) dX10_readsCells_31 (by decide) ?_
      refine gd_V3 km_X10_124 kv_X10_number (c_X10_number (s := s1) (pl := 4 + i) (lo := 0) (hi := 60) hR1 hx hl1 hs1 (by omega) (by omega) (by omega)) (sh161 _) rfl rfl (gt_rc0 (by decide)) (Nat.le_of_ble_eq_true rfl) dX10_readsCells_33 (fun r_33 w_33 q_33 => ?_)
      obtain ⟨f33, ⟨rfl, ok, no⟩, hv⟩ := q_33
      refine ga_if_ne 41 dX10_readsCells_36 (by decide) (fun c_36 => ?_) (fun c_36 => ?_)
      · have k1 := gx_if0 c_36
        have hv := hv k1
        have ok := ok k1
        refine ga_aload_n 0 dX10_readsCells_41 rfl ?_
        refine ga_get kf_X10_13 (sh161 _) rfl dX10_readsCells_42 ?_
        refine ga_iconst (nI 0) dX10_readsCells_45 (by decide) ?_
        refine ga_dup2 dX10_readsCells_46 rfl rfl ?_
        refine ge_ialdE sh163 (gt_ixn (by decide)) (show w_33 163 0 = nI i by rw [hv, upd_ne _ _ (by omega), hK1.1 0 (by decide), hi]) dX10_readsCells_47 ?_
        refine ga_iconst (nI 1) dX10_readsCells_48 (by decide) ?_
        refine ga_iadd dX10_readsCells_49 ?_
        refine gw_iast (sh163) (k := 0) (gt_ixn (by decide)) dX10_readsCells_50 (fun w_50 o_50 e_50 => ?_)
        have f50 : gx_rf w1 w_50 := gx_rf_tr f33 ⟨fun c h1 h2 => o_50 c h2, fun q _ => congrFun (o_50 161 (by decide)) q⟩
        have hK2 : gx_mc (w_50 163) (gx_up (gx_up K1 1 i (gx_nv x L s1)) 0 0 (i + 1)) := by
          have h9 := gx_mc_ce (v0 := gx_nv x L s1) hK1 (by omega) (by omega)
          rw [hi] at h9
          rw [e_50, hv, nI_add]
          exact h9
        have hl2 : (gx_num x L s1 0 60).1 ≤ L := gx_num_L hl1 _ _
        have hR2 : gx_Rt w_50 x L (gx_num x L s1 0 60).1 := gx_Rt_rf hR1 f50 (by rw [o_50 161 (by decide)]; exact ok)
        obtain ⟨b, hb⟩ : ∃ b, b = gx_skip x L (gx_num x L s1 0 60).1 := ⟨_, rfl⟩
        have hbL : b ≤ L := by rw [hb]; exact (gx_skip_b (L - (gx_num x L s1 0 60).1) (gx_num x L s1 0 60).1 (by omega)).2
        refine ga_aload_n 0 dX10_readsCells_51 rfl ?_
        refine gd_V0 km_X10_117 kv_X10_step (c_X10_step hR2 hx hl2) (sh161 _) rfl rfl (gt_rc0 (by decide)) (Nat.le_of_ble_eq_true rfl) dX10_readsCells_52 (fun r_52 w_52 q_52 => ?_)
        obtain ⟨rfl, oS, eS, hTk⟩ := q_52
        rw [← hb] at hTk
        have fS : gx_rf w_50 w_52 := ⟨fun c h1 _ => oS c h1, fun q hq => eS q (by omega)⟩
        have hK3 : gx_mc (w_52 163) (gx_up (gx_up K1 1 i (gx_nv x L s1)) 0 0 (i + 1)) := by rw [oS 163 (by decide)]; exact hK2
        have c00 : (gx_up (gx_up K1 1 i (gx_nv x L s1)) 0 0 (i + 1)) 0 0 = i + 1 := gx_up_eq _ _ _ _
        refine ga_aload_n 0 dX10_readsCells_55 rfl ?_
        refine ga_get kf_X10_101 (sh161 _) (gv hTk.2.1) dX10_readsCells_56 ?_
        refine ga_bipush (nI 44) dX10_readsCells_59 (by decide) ?_
        refine ga_icmp_ne 68 dX10_readsCells_61 (by decide) (fun c_61 => ?_) (fun c_61 => ?_)
        · have hnc : ¬ (b < L ∧ x b = 44) := fun q => c_61 ((gx_sv_c hx (Or.inl (by decide)) (by decide)).mpr q)
          have hC : gx_ce0 x L s K = ((b, (gx_num x L s1 0 60).2), (gx_up (gx_up K1 1 i (gx_nv x L s1)) 0 0 (i + 1))) := by
            rw [hE, show 9 - i = j + 1 by omega]
            unfold gx_cs
            rw [← hb, if_neg hnc]
          have k1z : ((b, (gx_num x L s1 0 60).2) : gx_T).2.1 = 0 := k1
          have hend9 := gx_ce_end hC k1z (by show gx_skip x L b = b; rw [hb]; exact gx_skip_i hl2) (fun _ => rfl)
          refine ga_iconst (nI 0) dX10_readsCells_68 (by decide) ?_
          refine gs_istore_n [(0, _), (1, _)] dX10_readsCells_69 (by decide) rfl rfl ?_
          refine ga_iload_n 1 dX10_readsCells_70 rfl ?_
          refine ga_if_eq 17 dX10_readsCells_71 (by decide) (fun c_71 => ?_) (fun c_71 => absurd nI_0 c_71)
          refine ga_iload_n 1 dX10_readsCells_17 rfl ?_
          refine ga_if_eq 91 dX10_readsCells_18 (by decide) (fun c_18 => ?_) (fun c_18 => absurd nI_0 c_18)
          refine ga_aload_n 0 dX10_readsCells_91 rfl ?_
          refine ga_get kf_X10_101 (sh161 _) (gv hTk.2.1) dX10_readsCells_92 ?_
          refine ga_bipush (nI 59) dX10_readsCells_95 (by decide) ?_
          refine ga_icmp_ne 110 dX10_readsCells_97 (by decide) (fun c_97 => ?_) (fun c_97 => ?_)
          · have hno := hend9.2 (fun z => c_97 ((gx_sv_c hx (Or.inr (by decide)) (by decide)).mpr z.2))
            refine ga_aload_n 0 dX10_readsCells_110 rfl ?_
            refine ga_iconst (nI 1) dX10_readsCells_111 (by decide) ?_
            refine gd_V1 km_X10_120 kv_X10_fails c_X10_fails (sh161 _) rfl rfl (gt_rc0 (by decide)) (Nat.le_of_ble_eq_true rfl) dX10_readsCells_112 (fun r_112 w_112 q_112 => ?_)
            obtain ⟨rfl, oF, eF⟩ := q_112
            have hend : gx_rf w w_112 ∧ gx_ro (some (.int (nI 0))) w_112 (gx_ce x L s K) ∧ ((gx_ce x L s K).2.1 = 0 → gx_mc (w_112 163) (gx_ce0 x L s K).2) := ⟨gx_rf_tr hf (gx_rf_tr f50 (gx_rf_tr fS ⟨fun c h1 _ => oF c h1, fun q hq => by rw [eF, upd_ne _ _ (by omega)]⟩)), gx_ro_fail (s := (gx_ce x L s K)) rfl (by rw [hno]; simp) (by rw [hno]; exact ⟨by rw [eF, upd_eq], by rw [eF, upd_ne _ _ (by decide)]; exact hTk.1.trans (gx_seat_s b).symm⟩), fun q => absurd q (by rw [hno]; simp)⟩
            refine ga_if_eq 122 dX10_readsCells_115 (by decide) (fun c_115 => ?_) (fun c_115 => absurd nI_0 c_115)
            refine ga_iconst (nI 0) dX10_readsCells_122 (by decide) ?_
            exact gd_zret dX10_readsCells_123 (by decide) hend
          · have h59 := (gx_sv_c hx (Or.inr (by decide)) (by decide)).mp c_97
            refine ga_aload_n 0 dX10_readsCells_100 rfl ?_
            refine ga_get kf_X10_13 (sh161 _) rfl dX10_readsCells_101 ?_
            refine ga_iconst (nI 0) dX10_readsCells_104 (by decide) ?_
            refine ge_ialdE sh163 (gt_ixn (by decide)) (hK3.1 0 (by decide)) dX10_readsCells_105 ?_
            refine ga_top (nI (i + 1)) (by rw [c00]) ?_
            refine ga_iconst (nI 1) dX10_readsCells_106 (by decide) ?_
            refine ga_icmp_gt 118 dX10_readsCells_107 (by decide) (fun c_107 => ?_) (fun c_107 => ?_)
            · have hyes := hend9.1 ⟨by rw [c00]; exact (nI_ltI (by decide) (by omega)).mp c_107, h59⟩
              have hend : gx_rf w w_52 ∧ gx_ro (some (.int (nI 1))) w_52 (gx_ce x L s K) ∧ ((gx_ce x L s K).2.1 = 0 → gx_mc (w_52 163) (gx_ce0 x L s K).2) := ⟨gx_rf_tr hf (gx_rf_tr f50 fS), gx_ro_ok (by rw [hyes]; exact k1z) (by rw [hyes, hTk.2.2.1, gx_nx_c (Or.inr (by decide)) h59]), fun _ => by rw [hC]; exact hK3⟩
              refine ga_iconst (nI 1) dX10_readsCells_118 (by decide) ?_
              refine ga_goto 123 dX10_readsCells_119 (by decide) ?_
              exact gd_zret dX10_readsCells_123 (by decide) hend
            · have hno := hend9.2 (fun z => c_107 (nI_lt (by rw [c00] at z; exact z.1) (by omega)))
              refine ga_aload_n 0 dX10_readsCells_110 rfl ?_
              refine ga_iconst (nI 1) dX10_readsCells_111 (by decide) ?_
              refine gd_V1 km_X10_120 kv_X10_fails c_X10_fails (sh161 _) rfl rfl (gt_rc0 (by decide)) (Nat.le_of_ble_eq_true rfl) dX10_readsCells_112 (fun r_112 w_112 q_112 => ?_)
              obtain ⟨rfl, oF, eF⟩ := q_112
              have hend : gx_rf w w_112 ∧ gx_ro (some (.int (nI 0))) w_112 (gx_ce x L s K) ∧ ((gx_ce x L s K).2.1 = 0 → gx_mc (w_112 163) (gx_ce0 x L s K).2) := ⟨gx_rf_tr hf (gx_rf_tr f50 (gx_rf_tr fS ⟨fun c h1 _ => oF c h1, fun q hq => by rw [eF, upd_ne _ _ (by omega)]⟩)), gx_ro_fail (s := (gx_ce x L s K)) rfl (by rw [hno]; simp) (by rw [hno]; exact ⟨by rw [eF, upd_eq], by rw [eF, upd_ne _ _ (by decide)]; exact hTk.1.trans (gx_seat_s b).symm⟩), fun q => absurd q (by rw [hno]; simp)⟩
              refine ga_if_eq 122 dX10_readsCells_115 (by decide) (fun c_115 => ?_) (fun c_115 => absurd nI_0 c_115)
              refine ga_iconst (nI 0) dX10_readsCells_122 (by decide) ?_
              exact gd_zret dX10_readsCells_123 (by decide) hend
        · have hcm := (gx_sv_c hx (Or.inl (by decide)) (by decide)).mp c_61
          refine ga_iconst (nI 1) dX10_readsCells_64 (by decide) ?_
          refine ga_goto 69 dX10_readsCells_65 (by decide) ?_
          refine gs_istore_n [(0, _), (1, _)] dX10_readsCells_69 (by decide) rfl rfl ?_
          refine ga_iload_n 1 dX10_readsCells_70 rfl ?_
          refine ga_if_eq 17 dX10_readsCells_71 (by decide) (fun c_71 => absurd c_71 (by decide)) (fun c_71 => ?_)
          refine ga_aload_n 0 dX10_readsCells_74 rfl ?_
          refine ga_get kf_X10_13 (sh161 _) rfl dX10_readsCells_75 ?_
          refine ga_iconst (nI 0) dX10_readsCells_78 (by decide) ?_
          refine ge_ialdE sh163 (gt_ixn (by decide)) (hK3.1 0 (by decide)) dX10_readsCells_79 ?_
          refine ga_top (nI (i + 1)) (by rw [c00]) ?_
          refine ga_bipush (nI 10) dX10_readsCells_80 (by decide) ?_
          refine ga_icmp_ne 17 dX10_readsCells_82 (by decide) (fun c_82 => ?_) (fun c_82 => absurd (show ¬ nI (i + 1) = nI 10 from fun q => absurd ((nI_eq (by omega) (by decide)).mp q) (by omega)) (not_not_intro c_82))
          have hsn : gx_sgn x L (gx_skip x L (gx_num x L s1 0 60).1, (gx_num x L s1 0 60).2) 44 = (b + 1, (gx_num x L s1 0 60).2) := by rw [← hb]; exact gx_sgn_at (s := (b, (gx_num x L s1 0 60).2)) (by show gx_skip x L b = b; rw [hb]; exact gx_skip_i hl2) hcm.1 hcm.2
          refine ih (i + 1) (by omega) (b + 1, (gx_num x L s1 0 60).2) (gx_up (gx_up K1 1 i (gx_nv x L s1)) 0 0 (i + 1)) _ ?_ (gx_rf_tr hf (gx_rf_tr f50 fS)) (gx_Rt_rf hR2 fS (by rw [hTk.2.2.1, gx_nx_c (Or.inl (by decide)) hcm])) hcm.1 k1 hK3 c00 ⟨by rw [gx_up_col (by decide), gx_up_row (by decide)]; exact hz.1, by rw [gx_up_col (by decide), gx_up_row (by decide)]; exact hz.2.1, by rw [gx_up_col (by decide), gx_up_row (by decide)]; exact hz.2.2⟩
          rw [hE, show 9 - i = j + 1 by omega, show 9 - (i + 1) = j by omega]
          show (if gx_skip x L (gx_num x L s1 0 60).1 < L ∧ x (gx_skip x L (gx_num x L s1 0 60).1) = 44 then _ else _) = _
          rw [if_pos (by rw [← hb]; exact hcm), hsn, show 10 - (j + 1) = i + 1 by omega]
      · have k1 := gx_if1 c_36
        have he0 : (gx_ce0 x L s K).1.2 = (gx_num x L s1 0 60).2 := by rw [hE]; exact gx_cs_k _ _ _ k1
        have he : (gx_ce x L s K).2 = (gx_num x L s1 0 60).2 := (gx_ce_k (by rw [he0]; exact k1)).trans he0
        refine ga_iconst (nI 0) dX10_readsCells_39 (by decide) ?_
        exact gd_zret dX10_readsCells_40 (by decide) ⟨gx_rf_tr hf f33, gx_ro_fail he k1 (no k1), fun q => absurd (show (gx_num x L s1 0 60).2.1 = 0 by rw [← he]; exact q) k1⟩
  exact loop 9 0 (by omega) (s.1 + 1, s.2) K w (by unfold gx_ce0; rw [hat]) ⟨fun _ _ _ => rfl, fun _ _ => rfl⟩ hR hlt hs hK h00 hzz
def gx_cl1 (x : Nat → Nat) (L : Nat) (s : gx_T) (K : gx_K) : gx_T := if K 0 0 = 0 then gx_ce x L s K else gx_cl x L s K
def gx_cl1K (x : Nat → Nat) (L : Nat) (s : gx_T) (K : gx_K) : gx_K := if K 0 0 = 0 then (gx_ce0 x L s K).2 else gx_clK x L s K
/-- the coast as far as it is read -/
def gx_Kr (K : gx_K) : Prop := (K 0 0 = 0 ∧ K 0 1 = 0 ∧ K 0 2 = 0 ∧ K 0 3 = 0) ∨ gx_KB K
set_option maxRecDepth 100000 in
set_option maxHeartbeats 4000000 in
theorem c_X10_readsClause {l : Launch} {G : gt_G} {n : Nat} {w : gt_W} {x : Nat → Nat} {L : Nat} {s : gx_T} {K : gx_K} (hRt : w 161 10 = nI L ∧ ∀ j, j < L → w 169 j = nI (x j)) (hTk : gx_Tk w x L s.1) (hx : gx_Tx x L) (hs : s.2.1 = 0) (hp : gx_skip x L s.1 = s.1) (hlt : s.1 < L) (hK : gx_mc (w 163) K) (hKr : gx_Kr K) : gt_D l G yX10_readsClause cX10_readsClause 1 (some .boolean) 5 n [.ref 161] w (fun r w' => gx_rf w w' ∧ gx_ro r w' (gx_cl1 x L s K) ∧ ((gx_cl1 x L s K).2.1 = 0 → gx_mc (w' 163) (gx_cl1K x L s K))) := by
  have hR1 : ∀ {c : Nat}, (c < 48 ∨ 57 < c) → x s.1 = c → gx_Rt w x L (s.1 + 1) := fun hc e => ⟨hRt.1, hRt.2, by rw [hTk.2.2.1, gx_nx_c hc ⟨hlt, e⟩]⟩
  refine gt_D_of (own := RX10) (nm := "readsClause") rfl rfl (by decide +kernel) (Nat.le_of_ble_eq_true rfl) ?_
  show gt_A _ _ _ _ _ _ _ _ _ _ _ [(0, .ref 161)] _ _
  refine ga_aload_n 0 dX10_readsClause_0 rfl ?_
  refine ga_get kf_X10_101 (sh161 _) (gv hTk.2.1) dX10_readsClause_1 ?_
  refine ga_bipush (nI 99) dX10_readsClause_4 (by decide) ?_
  refine ga_icmp_ne 14 dX10_readsClause_6 (by decide) (fun c_6 => ?_) (fun c_6 => ?_)
  · have h99 : ¬ x s.1 = 99 := fun q => c_6 ((gx_sv_c hx (Or.inr (by decide)) (by decide)).mpr ⟨hlt, q⟩)
    refine ga_aload_n 0 dX10_readsClause_14 rfl ?_
    refine ga_get kf_X10_13 (sh161 _) rfl dX10_readsClause_15 ?_
    refine ga_iconst (nI 0) dX10_readsClause_18 (by decide) ?_
    refine ge_ialdE sh163 (gt_ixn (by decide)) (hK.1 0 (by decide)) dX10_readsClause_19 ?_
    refine ga_if_ne 29 dX10_readsClause_20 (by decide) (fun c_20 => ?_) (fun c_20 => ?_)
    · have h00 : ¬ K 0 0 = 0 := fun q => c_20 (by rw [q]; rfl)
      have hkb : gx_KB K := by rcases hKr with q | q; exact absurd q.1 h00; exact q
      obtain ⟨sg, hsg, hs98, hs112, hs116⟩ : ∃ sg, gx_sv x L s.1 = nI sg ∧ (sg = 98 ↔ x s.1 = 98) ∧ (sg = 112 ↔ x s.1 = 112) ∧ (sg = 116 ↔ x s.1 = 116) ∧ sg ≤ 255 := by
        by_cases hd : gx_dig x L s.1
        · exact ⟨48, if_pos hd, by have := hd.2; omega, by have := hd.2; omega, by have := hd.2; omega, by decide⟩
        · exact ⟨x s.1, (if_neg hd).trans (if_pos hlt), Iff.rfl, Iff.rfl, Iff.rfl, hx.2 _ hlt⟩
      refine ga_aload_n 0 dX10_readsClause_29 rfl ?_
      refine ga_get kf_X10_101 (sh161 _) (gv hTk.2.1) dX10_readsClause_30 ?_
      refine ga_top (nI sg) hsg ?_
      rcases (show sg = 98 ∨ sg = 112 ∨ sg = 116 ∨ (¬ sg = 98 ∧ ¬ sg = 112 ∧ ¬ sg = 116) by omega) with sw_33 | sw_33 | sw_33 | sw_33
      · refine ga_top (nI 98) (by rw [sw_33]) ?_
        refine ga_lookup 78 dX10_readsClause_33 (by decide) (off := 45) (by decide) (by decide) ?_
        have h98 := hs98.mp sw_33
        have eC : gx_cl1 x L s K = gx_bo x L s K := by unfold gx_cl1 gx_cl; rw [if_neg h00, if_neg (by omega), if_neg (by omega), if_pos h98]
        have eCK : gx_cl1K x L s K = gx_boK x L s K := by unfold gx_cl1K gx_clK; rw [if_neg h00, if_neg (by omega), if_neg (by omega), if_pos h98]
        refine ga_aload_n 0 dX10_readsClause_78 rfl ?_
        refine gd_V0 km_X10_141 kv_X10_readsBoat (c_X10_readsBoat (hR1 (Or.inr (by decide)) h98) hTk.1 hx hs hp hlt h98 hK hkb) (sh161 _) rfl rfl (gt_rc0 (by decide)) (Nat.le_of_ble_eq_true rfl) dX10_readsClause_79 (fun r_79 w_79 q_79 => ?_)
        obtain ⟨fT, ⟨rfl, okT, noT⟩, hT⟩ := q_79
        exact gd_zret dX10_readsClause_82 (by split <;> decide) ⟨fT, (by rw [eC]; exact ⟨rfl, okT, noT⟩), (by rw [eC, eCK]; exact hT)⟩
      · refine ga_top (nI 112) (by rw [sw_33]) ?_
        refine ga_lookup 73 dX10_readsClause_33 (by decide) (off := 40) (by decide) (by decide) ?_
        have h112 := hs112.mp sw_33
        have eC : gx_cl1 x L s K = gx_pl x L s K := by unfold gx_cl1 gx_cl; rw [if_neg h00, if_neg (by omega), if_pos h112]
        have eCK : gx_cl1K x L s K = gx_plK x L s K := by unfold gx_cl1K gx_clK; rw [if_neg h00, if_neg (by omega), if_pos h112]
        refine ga_aload_n 0 dX10_readsClause_73 rfl ?_
        refine gd_V0 km_X10_138 kv_X10_readsPlayer (c_X10_readsPlayer (hR1 (Or.inr (by decide)) h112) hTk.1 hx hs hp hlt h112 hK hkb) (sh161 _) rfl rfl (gt_rc0 (by decide)) (Nat.le_of_ble_eq_true rfl) dX10_readsClause_74 (fun r_74 w_74 q_74 => ?_)
        obtain ⟨fT, ⟨rfl, okT, noT⟩, hT⟩ := q_74
        exact gd_zret dX10_readsClause_77 (by split <;> decide) ⟨fT, (by rw [eC]; exact ⟨rfl, okT, noT⟩), (by rw [eC, eCK]; exact hT)⟩
      · refine ga_top (nI 116) (by rw [sw_33]) ?_
        refine ga_lookup 68 dX10_readsClause_33 (by decide) (off := 35) (by decide) (by decide) ?_
        have h116 := hs116.1.mp sw_33
        have eC : gx_cl1 x L s K = gx_tw x L s K := by unfold gx_cl1 gx_cl; rw [if_neg h00, if_pos h116]
        have eCK : gx_cl1K x L s K = gx_twK x L s K := by unfold gx_cl1K gx_clK; rw [if_neg h00, if_pos h116]
        refine ga_aload_n 0 dX10_readsClause_68 rfl ?_
        refine gd_V0 km_X10_135 kv_X10_readsTower (c_X10_readsTower (hR1 (Or.inr (by decide)) h116) hTk.1 hx hs hp hlt h116 hK hkb) (sh161 _) rfl rfl (gt_rc0 (by decide)) (Nat.le_of_ble_eq_true rfl) dX10_readsClause_69 (fun r_69 w_69 q_69 => ?_)
        obtain ⟨fT, ⟨rfl, okT, noT⟩, hT⟩ := q_69
        exact gd_zret dX10_readsClause_72 (by split <;> decide) ⟨fT, (by rw [eC]; exact ⟨rfl, okT, noT⟩), (by rw [eC, eCK]; exact hT)⟩
      · refine ga_lookup 83 dX10_readsClause_33 (by decide) (off := 50) (by rw [nI_toInt (by omega)]; simp only [Op.lookupswitch.offset]; rw [if_neg (by omega), if_neg (by omega), if_neg (by omega)]) (by decide) ?_
        have eC : gx_cl1 x L s K = (s.1, 1, s.1 + 1) := by unfold gx_cl1 gx_cl; rw [if_neg h00, if_neg (fun q => sw_33.2.2 (hs116.1.mpr q)), if_neg (fun q => sw_33.2.1 (hs112.mpr q)), if_neg (fun q => sw_33.1 (hs98.mpr q)), if_neg h99, gx_fl_g hs]
        refine ga_aload_n 0 dX10_readsClause_83 rfl ?_
        refine ga_iconst (nI 1) dX10_readsClause_84 (by decide) ?_
        refine gd_V1 km_X10_120 kv_X10_fails c_X10_fails (sh161 _) rfl rfl (gt_rc0 (by decide)) (Nat.le_of_ble_eq_true rfl) dX10_readsClause_85 (fun r_85 w_85 q_85 => ?_)
        obtain ⟨rfl, oF, eF⟩ := q_85
        exact gd_zret dX10_readsClause_88 (by decide) ⟨⟨fun c h1 _ => oF c h1, fun q hq => by rw [eF, upd_ne _ _ (by omega)]⟩, gx_ro_fail (s := (gx_cl1 x L s K)) rfl (by rw [eC]; simp) (by rw [eC]; exact ⟨by rw [eF, upd_eq], by rw [eF, upd_ne _ _ (by decide)]; exact hTk.1.trans (gx_seat_s s.1).symm⟩), fun q => absurd q (by rw [eC]; simp)⟩
    · have h00 : K 0 0 = 0 := (nI_eq (by rcases hKr with q | q; omega; have := q.1.2; omega) (by decide)).mp (c_20.trans nI_0.symm)
      have eC : (gx_cl1 x L s K).2 = (1, s.1 + 1) := by unfold gx_cl1; rw [if_pos h00]; exact gx_ce_no hs hp h99
      refine ga_aload_n 0 dX10_readsClause_23 rfl ?_
      refine ga_iconst (nI 1) dX10_readsClause_24 (by decide) ?_
      refine gd_V1 km_X10_120 kv_X10_fails c_X10_fails (sh161 _) rfl rfl (gt_rc0 (by decide)) (Nat.le_of_ble_eq_true rfl) dX10_readsClause_25 (fun r_25 w_25 q_25 => ?_)
      obtain ⟨rfl, oF, eF⟩ := q_25
      exact gd_zret dX10_readsClause_28 (by decide) ⟨⟨fun c h1 _ => oF c h1, fun q hq => by rw [eF, upd_ne _ _ (by omega)]⟩, gx_ro_fail (s := (gx_cl1 x L s K)) rfl (by rw [eC]; simp) (by rw [eC]; exact ⟨by rw [eF, upd_eq], by rw [eF, upd_ne _ _ (by decide)]; exact hTk.1.trans (gx_seat_s s.1).symm⟩), fun q => absurd q (by rw [eC]; simp)⟩
  · have h99 := ((gx_sv_c hx (Or.inr (by decide)) (by decide)).mp c_6).2
    refine ga_aload_n 0 dX10_readsClause_9 rfl ?_
    rcases Nat.eq_zero_or_pos (K 0 0) with h00 | h00
    · have hzz : K 0 1 = 0 ∧ K 0 2 = 0 ∧ K 0 3 = 0 := by rcases hKr with q | q; exact q.2; exact absurd h00 (by have := q.1; omega)
      have eC : gx_cl1 x L s K = gx_ce x L s K := if_pos h00
      have eCK : gx_cl1K x L s K = (gx_ce0 x L s K).2 := if_pos h00
      refine gd_V0 km_X10_132 kv_X10_readsCells (c_X10_readsCells (hR1 (Or.inr (by decide)) h99) hTk.1 hx hs hp hlt h99 hK h00 hzz) (sh161 _) rfl rfl (gt_rc0 (by decide)) (Nat.le_of_ble_eq_true rfl) dX10_readsClause_10 (fun r_10 w_10 q_10 => ?_)
      obtain ⟨fT, ⟨rfl, okT, noT⟩, hT⟩ := q_10
      exact gd_zret dX10_readsClause_13 (by split <;> decide) ⟨fT, (by rw [eC]; exact ⟨rfl, okT, noT⟩), (by rw [eC, eCK]; exact hT)⟩
    · have eC : gx_cl1 x L s K = (s.1, 3, s.1 + 1) := by unfold gx_cl1 gx_cl; rw [if_neg (by omega), if_neg (by omega), if_neg (by omega), if_neg (by omega), if_pos h99, gx_fl_g hs]
      refine gd_V0 km_X10_132 kv_X10_readsCells (c_X10_readsCells_full hK h00 (by rcases hKr with q | q; omega; exact q.1.2)) (sh161 _) rfl rfl (gt_rc0 (by decide)) (Nat.le_of_ble_eq_true rfl) dX10_readsClause_10 (fun r_10 w_10 q_10 => ?_)
      obtain ⟨rfl, oF, eF⟩ := q_10
      exact gd_zret dX10_readsClause_13 (by decide) ⟨⟨fun c h1 _ => oF c h1, fun q hq => by rw [eF, upd_ne _ _ (by omega)]⟩, gx_ro_fail (s := (gx_cl1 x L s K)) rfl (by rw [eC]; simp) (by rw [eC]; exact ⟨by rw [eF, upd_eq], by rw [eF, upd_ne _ _ (by decide)]; exact hTk.1.trans (gx_seat_s s.1).symm⟩), fun q => absurd q (by rw [eC]; simp)⟩
