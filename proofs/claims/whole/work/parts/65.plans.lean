set_option maxRecDepth 100000 in
set_option maxHeartbeats 4000000 in
theorem c_X10_goesOn {l : Launch} {G : gt_G} {n : Nat} {w : gt_W} {K : gx_K} {p t9 : Nat} {ρ : Nat → Nat} (hM : gx_mc (w 162) K) (kw : gx_KW K) (hp : p < 6) (hv : ∀ q, q < p → ρ q ≤ K 0 1) (hrow : ∀ q, q < p → w 173 q = gx_er (K 0 1) (ρ q)) (hp0 : w 173 p = gx_seat t9) (ht9 : t9 ≤ K 0 1 + 1) : gt_D l G yX10_goesOn cX10_goesOn 2 (some .int) 2 n [.ref 161, .int (nI p)] w (fun r w' => (∀ b, b ≠ 173 → w' b = w b) ∧ (∀ q, q < p → w' 173 q = w 173 q) ∧ ((∃ u, t9 ≤ u ∧ u ≤ K 0 1 ∧ (u = K 0 1 ∨ gx_fr ρ p u) ∧ (∀ i, t9 ≤ i → i < u → ¬ gx_fr ρ p i) ∧ r = some (.int (nI (p + 1))) ∧ w' 173 p = nI u ∧ (p < 5 → w' 173 (p + 1) = -1)) ∨ (t9 = K 0 1 + 1 ∧ r = some (.int (gx_seat p))))) := by
  have k1 := kw.2.1
  refine gt_D_of (own := RX10) (nm := "goesOn") rfl rfl (by decide +kernel) (Nat.le_of_ble_eq_true rfl) ?_
  show gt_A _ _ _ _ _ _ _ _ _ _ _ [(0, .ref 161), (1, .int (nI p))] _ _
  refine ga_aload_n 0 dX10_goesOn_0 rfl ?_
  refine ga_get kf_X10_48 (sh161 _) rfl dX10_goesOn_1 ?_
  refine ga_iload_n 1 dX10_goesOn_4 rfl ?_
  refine ga_dup2 dX10_goesOn_5 rfl rfl ?_
  refine ge_ialdE sh173 (gt_ixn (by omega)) hp0 dX10_goesOn_6 ?_
  refine ga_iconst (nI 1) dX10_goesOn_7 (by decide) ?_
  refine ga_iadd dX10_goesOn_8 ?_
  refine ga_top _ (gx_seat_inc t9) ?_
  refine gw_iast (sh173) (gt_ixn (by omega)) dX10_goesOn_9 (fun w_9 o_9 e_9 => ?_)
  have loop : ∀ k9 u, u + k9 = K 0 1 + 1 → t9 ≤ u → (∀ i, t9 ≤ i → i < u → ¬ gx_fr ρ p i) → ∀ w1 : gt_W, (∀ b, b ≠ 173 → w1 b = w b) → (∀ q, q < p → w1 173 q = w 173 q) → w1 173 p = nI u → gt_A l G RX10 "goesOn" cX10_goesOn 2 (some .int) (gt_rm 2 0 0) (gt_ZD G n (fun r w' => (∀ b, b ≠ 173 → w' b = w b) ∧ (∀ q, q < p → w' 173 q = w 173 q) ∧ ((∃ u, t9 ≤ u ∧ u ≤ K 0 1 ∧ (u = K 0 1 ∨ gx_fr ρ p u) ∧ (∀ i, t9 ≤ i → i < u → ¬ gx_fr ρ p i) ∧ r = some (.int (nI (p + 1))) ∧ w' 173 p = nI u ∧ (p < 5 → w' 173 (p + 1) = -1)) ∨ (t9 = K 0 1 + 1 ∧ r = some (.int (gx_seat p)))))) (n, 0, 0) 10 [(0, .ref 161), (1, .int (nI p))] [] (gt_enc w1) := by
    intro k9
    induction k9 with
    | zero =>
      intro u hk h9 hno w1 o1 hp1 hu1
      have hM0 := hM
      have hM : gx_mc (w1 162) K := by rw [o1 162 (by decide)]; exact hM0
      refine ga_aload_n 0 dX10_goesOn_10 rfl ?_
      refine ga_get kf_X10_48 (sh161 _) rfl dX10_goesOn_11 ?_
      refine ga_iload_n 1 dX10_goesOn_14 rfl ?_
      refine ge_ialdE sh173 (gt_ixn (by omega)) hu1 dX10_goesOn_15 ?_
      refine ga_aload_n 0 dX10_goesOn_16 rfl ?_
      refine ga_get kf_X10_7 (sh161 _) rfl dX10_goesOn_17 ?_
      refine ga_iconst (nI 1) dX10_goesOn_20 (by decide) ?_
      refine gm_c1 hM dX10_goesOn_21 ?_
      refine ga_icmp_gt 46 dX10_goesOn_22 (by decide) (fun c_22 => ?_) (fun c_22 => absurd (nI_lt (show K 0 1 < u by omega) (by omega)) c_22)
      refine ga_aload_n 0 dX10_goesOn_46 rfl ?_
      refine ga_get kf_X10_48 (sh161 _) rfl dX10_goesOn_47 ?_
      refine ga_iload_n 1 dX10_goesOn_50 rfl ?_
      refine ge_ialdE sh173 (gt_ixn (by omega)) hu1 dX10_goesOn_51 ?_
      refine ga_aload_n 0 dX10_goesOn_52 rfl ?_
      refine ga_get kf_X10_7 (sh161 _) rfl dX10_goesOn_53 ?_
      refine ga_iconst (nI 1) dX10_goesOn_56 (by decide) ?_
      refine gm_c1 hM dX10_goesOn_57 ?_
      refine ga_icmp_le 65 dX10_goesOn_58 (by decide) (fun c_58 => absurd c_58 (nI_ge (show K 0 1 < u by omega) (by omega))) (fun c_58 => ?_)
      refine ga_iload_n 1 dX10_goesOn_61 rfl ?_
      refine ga_iconst (nI 1) dX10_goesOn_62 (by decide) ?_
      refine ga_isub dX10_goesOn_63 ?_
      exact gd_iret dX10_goesOn_64 ⟨o1, hp1, Or.inr ⟨Decidable.byContradiction fun q => absurd (Or.inl rfl) (hT9 (by omega)), rfl⟩⟩
    | succ k9 ih =>
      intro u hk h9 hno w1 o1 hp1 hu1
      have hM0 := hM
      have hM : gx_mc (w1 162) K := by rw [o1 162 (by decide)]; exact hM0
      refine ga_aload_n 0 dX10_goesOn_10 rfl ?_
      refine ga_get kf_X10_48 (sh161 _) rfl dX10_goesOn_11 ?_
      refine ga_iload_n 1 dX10_goesOn_14 rfl ?_
      refine ge_ialdE sh173 (gt_ixn (by omega)) hu1 dX10_goesOn_15 ?_
      refine ga_aload_n 0 dX10_goesOn_16 rfl ?_
      refine ga_get kf_X10_7 (sh161 _) rfl dX10_goesOn_17 ?_
      refine ga_iconst (nI 1) dX10_goesOn_20 (by decide) ?_
      refine gm_c1 hM dX10_goesOn_21 ?_
      refine ga_icmp_gt 46 dX10_goesOn_22 (by decide) (fun c_22 => absurd c_22 (nI_nlt (show u ≤ K 0 1 by omega) (by omega))) (fun c_22 => ?_)
      refine ga_aload_n 0 dX10_goesOn_25 rfl ?_
      refine ga_iload_n 1 dX10_goesOn_26 rfl ?_
      refine ga_V1 km_X10_266 kv_X10_mayBe (c_X10_mayBe (u := u) (ρ := ρ) hM kw (by omega) hv (fun q hq => (hp1 q hq).trans (hrow q hq)) hu1 (by omega)) (sh161 _) rfl rfl (gt_rc0 (by decide)) (Nat.le_of_ble_eq_true rfl) dX10_goesOn_27 ?_
      refine ga_if_ne 46 dX10_goesOn_30 (by decide) (fun c_30 => ?_) (fun c_30 => ?_)
      · have hfr := gx_if0 c_30
        refine ga_aload_n 0 dX10_goesOn_46 rfl ?_
        refine ga_get kf_X10_48 (sh161 _) rfl dX10_goesOn_47 ?_
        refine ga_iload_n 1 dX10_goesOn_50 rfl ?_
        refine ge_ialdE sh173 (gt_ixn (by omega)) hu1 dX10_goesOn_51 ?_
        refine ga_aload_n 0 dX10_goesOn_52 rfl ?_
        refine ga_get kf_X10_7 (sh161 _) rfl dX10_goesOn_53 ?_
        refine ga_iconst (nI 1) dX10_goesOn_56 (by decide) ?_
        refine gm_c1 hM dX10_goesOn_57 ?_
        refine ga_icmp_le 65 dX10_goesOn_58 (by decide) (fun c_58 => ?_) (fun c_58 => absurd (nI_le (show u ≤ K 0 1 by omega) (by omega)) c_58)
        refine ga_iload_n 1 dX10_goesOn_65 rfl ?_
        refine ga_iconst (nI 5) dX10_goesOn_66 (by decide) ?_
        refine ga_icmp_ge 79 dX10_goesOn_67 (by decide) (fun c_67 => ?_) (fun c_67 => ?_)
        · have hp5 : 5 ≤ p := (nI_leI (by decide) (by omega)).mp c_67
          refine ga_iload_n 1 dX10_goesOn_79 rfl ?_
          refine ga_iconst (nI 1) dX10_goesOn_80 (by decide) ?_
          refine ga_iadd dX10_goesOn_81 ?_
          exact gd_iret dX10_goesOn_82 ⟨o1, hp1, Or.inl ⟨u, h9, by omega, hfr, hno, gv (nI_add p 1), hu1, fun q => absurd q (by omega)⟩⟩
        · have hp5 : p < 5 := Nat.lt_of_not_le (fun q => c_67 (nI_le q (by omega)))
          refine ga_aload_n 0 dX10_goesOn_70 rfl ?_
          refine ga_get kf_X10_48 (sh161 _) rfl dX10_goesOn_71 ?_
          refine ga_iload_n 1 dX10_goesOn_74 rfl ?_
          refine ga_iconst (nI 1) dX10_goesOn_75 (by decide) ?_
          refine ga_iadd dX10_goesOn_76 ?_
          refine ga_iconst ((-1)) dX10_goesOn_77 (by decide) ?_
          refine gw_iast (sh173) (k := p + 1) (gt_ixe (nI_add p 1) (by omega) (by decide)) dX10_goesOn_78 (fun w_78 o_78 e_78 => ?_)
          refine ga_iload_n 1 dX10_goesOn_79 rfl ?_
          refine ga_iconst (nI 1) dX10_goesOn_80 (by decide) ?_
          refine ga_iadd dX10_goesOn_81 ?_
          exact gd_iret dX10_goesOn_82 ⟨fun b hb => (o_78 b hb).trans (o1 b hb), fun q hq => by rw [e_78, upd_ne _ _ (by omega)]; exact hp1 q hq, Or.inl ⟨u, h9, by omega, hfr, hno, gv (nI_add p 1), by rw [e_78, upd_ne _ _ (by omega)]; exact hu1, fun _ => by rw [e_78, upd_eq]⟩⟩
      · have hnf := gx_if1 c_30
        refine ga_aload_n 0 dX10_goesOn_33 rfl ?_
        refine ga_get kf_X10_48 (sh161 _) rfl dX10_goesOn_34 ?_
        refine ga_iload_n 1 dX10_goesOn_37 rfl ?_
        refine ga_dup2 dX10_goesOn_38 rfl rfl ?_
        refine ge_ialdE sh173 (gt_ixn (by omega)) hu1 dX10_goesOn_39 ?_
        refine ga_iconst (nI 1) dX10_goesOn_40 (by decide) ?_
        refine ga_iadd dX10_goesOn_41 ?_
        refine ga_top _ (nI_add u 1) ?_
        refine gw_iast (sh173) (gt_ixn (by omega)) dX10_goesOn_42 (fun w_42 o_42 e_42 => ?_)
        refine ga_goto 10 dX10_goesOn_43 (by decide) ?_
        refine ih (u + 1) (by omega) (by omega) (fun i h1 h2 => ?_) _ (fun b hb => (o_42 b hb).trans (o1 b hb)) (fun q hq => by rw [e_42, upd_ne _ _ (by omega)]; exact hp1 q hq) (by rw [e_42, upd_eq])
        by_cases e : i = u
        · rw [e]; exact fun q => hnf (Or.inr q)
        · exact hno i h1 (by omega)
  exact loop (K 0 1 + 1 - t9) t9 (by omega) (Nat.le_refl _) (fun i h1 h2 => absurd h2 (by omega)) _ o_9 (fun q hq => by rw [e_9, upd_ne _ _ (by omega)]) (by rw [e_9, upd_eq])
