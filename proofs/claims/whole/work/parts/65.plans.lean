set_option maxRecDepth 100000 in
set_option maxHeartbeats 4000000 in
theorem c_X10_goesOn {l : Launch} {G : gt_G} {n : Nat} {w : gt_W} {K : gx_K} {p t9 : Nat} {ρ : Nat → Nat} (hM : gx_mc (w 162) K) (kw : gx_KW K) (hp : p < 6) (hv : ∀ q, q < p → ρ q ≤ K 0 1) (hrow : ∀ q, q < p → w 173 q = gx_er (K 0 1) (ρ q)) (hp0 : w 173 p = gx_seat t9) (ht9 : t9 ≤ K 0 1 + 1) : gt_D l G yX10_goesOn cX10_goesOn 2 (some .int) 2 n [.ref 161, .int (nI p)] w (fun r w' => (∀ b, b ≠ 173 → w' b = w b) ∧ (∀ q, q < p → w' 173 q = w 173 q) ∧ ((∃ u, t9 ≤ u ∧ u ≤ K 0 1 ∧ (u = K 0 1 ∨ gx_fr ρ p u) ∧ (∀ i, t9 ≤ i → i < u → ¬ gx_fr ρ p i) ∧ r = some (.int (nI (p + 1))) ∧ w' 173 p = nI u ∧ (p < 5 → w' 173 (p + 1) = -1)) ∨ (t9 = K 0 1 + 1 ∧ r = some (.int (gx_seat p))))) := by
  have k1 := kw.2.1
  refine gt_D_of (own := RX10) (nm := "goesOn") rfl rfl (by decide +kernel) (Nat.le_of_ble_eq_true rfl) ?_
  show gt_A _ _ _ _ _ _ _ _ _ _ _ [(0, .ref 161), (1, .int (nI p))] _ _
  refine ga_aload_n 0 dX10_goesOn_0 rfl ?_
  refine ga_get kf_X10_48 (sh161 _) rfl dX10_goesOn_1 ?_
  refine ga_iload_n 1 dX10_goesOn_4 rfl ?_
  refine ga_dup2 dX10_goesOn_5 rfl rfl ?_
  refine ge_ialdE sh173 (gt_ixn (by omega)) hp0 dX10_goesOn_6 ?_
  refine ga_iconst (nI 1) dX10_goesOn_7 (by decide) ?_
  refine ga_iadd dX10_goesOn_8 ?_
  refine ga_top _ (gx_seat_inc t9) ?_
  refine gw_iast (sh173) (gt_ixn (by omega)) dX10_goesOn_9 (fun w_9 o_9 e_9 => ?_)
  have loop : ∀ k9 u, u + k9 = K 0 1 + 1 → t9 ≤ u → (∀ i, t9 ≤ i → i < u → ¬ gx_fr ρ p i) → ∀ w1 : gt_W, (∀ b, b ≠ 173 → w1 b = w b) → (∀ q, q < p → w1 173 q = w 173 q) → w1 173 p = nI u → gt_A l G RX10 "goesOn" cX10_goesOn 2 (some .int) (gt_rm 2 0 0) (gt_ZD G n (fun r w' => (∀ b, b ≠ 173 → w' b = w b) ∧ (∀ q, q < p → w' 173 q = w 173 q) ∧ ((∃ u, t9 ≤ u ∧ u ≤ K 0 1 ∧ (u = K 0 1 ∨ gx_fr ρ p u) ∧ (∀ i, t9 ≤ i → i < u → ¬ gx_fr ρ p i) ∧ r = some (.int (nI (p + 1))) ∧ w' 173 p = nI u ∧ (p < 5 → w' 173 (p + 1) = -1)) ∨ (t9 = K 0 1 + 1 ∧ r = some (.int (gx_seat p)))))) (n, 0, 0) 10 [(0, .ref 161), (1, .int (nI p))] [] (gt_enc w1) := by
    intro k9
    induction k9 with
    | zero =>
      intro u hk h9 hno w1 o1 hp1 hu1
      have hM0 := hM
      have hM : gx_mc (w1 162) K := by rw [o1 162 (by decide)]; exact hM0
      have ht : t9 = K 0 1 + 1 := by
        rcases Nat.lt_or_ge (K 0 1) t9 with q | q
        · omega
        · exact absurd (fun a ha e => by have := hv a ha; omega) (hno (K 0 1) q (by omega))
      refine ga_aload_n 0 dX10_goesOn_10 rfl ?_
      refine ga_get kf_X10_48 (sh161 _) rfl dX10_goesOn_11 ?_
      refine ga_iload_n 1 dX10_goesOn_14 rfl ?_
      refine ge_ialdE sh173 (gt_ixn (by omega)) hu1 dX10_goesOn_15 ?_
      refine ga_aload_n 0 dX10_goesOn_16 rfl ?_
      refine ga_get kf_X10_7 (sh161 _) rfl dX10_goesOn_17 ?_
      refine ga_iconst (nI 1) dX10_goesOn_20 (by decide) ?_
      refine gm_c1 hM dX10_goesOn_21 ?_
      refine ga_icmp_gt 46 dX10_goesOn_22 (by decide) (fun c_22 => ?_) (fun c_22 => absurd (nI_lt (show K 0 1 < u by omega) (by omega)) c_22)
      refine ga_aload_n 0 dX10_goesOn_46 rfl ?_
      refine ga_get kf_X10_48 (sh161 _) rfl dX10_goesOn_47 ?_
      refine ga_iload_n 1 dX10_goesOn_50 rfl ?_
      refine ge_ialdE sh173 (gt_ixn (by omega)) hu1 dX10_goesOn_51 ?_
      refine ga_aload_n 0 dX10_goesOn_52 rfl ?_
      refine ga_get kf_X10_7 (sh161 _) rfl dX10_goesOn_53 ?_
      refine ga_iconst (nI 1) dX10_goesOn_56 (by decide) ?_
      refine gm_c1 hM dX10_goesOn_57 ?_
      refine ga_icmp_le 65 dX10_goesOn_58 (by decide) (fun c_58 => absurd c_58 (nI_ge (show K 0 1 < u by omega) (by omega))) (fun c_58 => ?_)
      refine ga_iload_n 1 dX10_goesOn_61 rfl ?_
      refine ga_iconst (nI 1) dX10_goesOn_62 (by decide) ?_
      refine ga_isub dX10_goesOn_63 ?_
      exact gd_iret dX10_goesOn_64 ⟨o1, hp1, Or.inr ⟨ht, gv (by unfold gx_seat; rfl)⟩⟩
    | succ k9 ih =>
      intro u hk h9 hno w1 o1 hp1 hu1
      have hM0 := hM
      have hM : gx_mc (w1 162) K := by rw [o1 162 (by decide)]; exact hM0
      refine ga_aload_n 0 dX10_goesOn_10 rfl ?_
      refine ga_get kf_X10_48 (sh161 _) rfl dX10_goesOn_11 ?_
      refine ga_iload_n 1 dX10_goesOn_14 rfl ?_
      refine ge_ialdE sh173 (gt_ixn (by omega)) hu1 dX10_goesOn_15 ?_
      refine ga_aload_n 0 dX10_goesOn_16 rfl ?_
      refine ga_get kf_X10_7 (sh161 _) rfl dX10_goesOn_17 ?_
      refine ga_iconst (nI 1) dX10_goesOn_20 (by decide) ?_
      refine gm_c1 hM dX10_goesOn_21 ?_
      refine ga_icmp_gt 46 dX10_goesOn_22 (by decide) (fun c_22 => absurd c_22 (nI_nlt (show u ≤ K 0 1 by omega) (by omega))) (fun c_22 => ?_)
      refine ga_aload_n 0 dX10_goesOn_25 rfl ?_
      refine ga_iload_n 1 dX10_goesOn_26 rfl ?_
      refine ga_V1 km_X10_266 kv_X10_mayBe (c_X10_mayBe (u := u) (ρ := ρ) hM kw (by omega) hv (fun q hq => (hp1 q hq).trans (hrow q hq)) hu1 (by omega)) (sh161 _) rfl rfl (gt_rc0 (by decide)) (Nat.le_of_ble_eq_true rfl) dX10_goesOn_27 ?_
      refine ga_if_ne 46 dX10_goesOn_30 (by decide) (fun c_30 => ?_) (fun c_30 => ?_)
      · have hfr := gx_if0 c_30
        refine ga_aload_n 0 dX10_goesOn_46 rfl ?_
        refine ga_get kf_X10_48 (sh161 _) rfl dX10_goesOn_47 ?_
        refine ga_iload_n 1 dX10_goesOn_50 rfl ?_
        refine ge_ialdE sh173 (gt_ixn (by omega)) hu1 dX10_goesOn_51 ?_
        refine ga_aload_n 0 dX10_goesOn_52 rfl ?_
        refine ga_get kf_X10_7 (sh161 _) rfl dX10_goesOn_53 ?_
        refine ga_iconst (nI 1) dX10_goesOn_56 (by decide) ?_
        refine gm_c1 hM dX10_goesOn_57 ?_
        refine ga_icmp_le 65 dX10_goesOn_58 (by decide) (fun c_58 => ?_) (fun c_58 => absurd (nI_le (show u ≤ K 0 1 by omega) (by omega)) c_58)
        refine ga_iload_n 1 dX10_goesOn_65 rfl ?_
        refine ga_iconst (nI 5) dX10_goesOn_66 (by decide) ?_
        refine ga_icmp_ge 79 dX10_goesOn_67 (by decide) (fun c_67 => ?_) (fun c_67 => ?_)
        · have hp5 : 5 ≤ p := (nI_leI (by decide) (by omega)).mp c_67
          refine ga_iload_n 1 dX10_goesOn_79 rfl ?_
          refine ga_iconst (nI 1) dX10_goesOn_80 (by decide) ?_
          refine ga_iadd dX10_goesOn_81 ?_
          exact gd_iret dX10_goesOn_82 ⟨o1, hp1, Or.inl ⟨u, h9, by omega, hfr, hno, gv (nI_add p 1), hu1, fun q => absurd q (by omega)⟩⟩
        · have hp5 : p < 5 := Nat.lt_of_not_le (fun q => c_67 (nI_le q (by omega)))
          refine ga_aload_n 0 dX10_goesOn_70 rfl ?_
          refine ga_get kf_X10_48 (sh161 _) rfl dX10_goesOn_71 ?_
          refine ga_iload_n 1 dX10_goesOn_74 rfl ?_
          refine ga_iconst (nI 1) dX10_goesOn_75 (by decide) ?_
          refine ga_iadd dX10_goesOn_76 ?_
          refine ga_iconst ((-1)) dX10_goesOn_77 (by decide) ?_
          refine gw_iast (sh173) (k := p + 1) (gt_ixe (nI_add p 1) (by omega) (by decide)) dX10_goesOn_78 (fun w_78 o_78 e_78 => ?_)
          refine ga_iload_n 1 dX10_goesOn_79 rfl ?_
          refine ga_iconst (nI 1) dX10_goesOn_80 (by decide) ?_
          refine ga_iadd dX10_goesOn_81 ?_
          exact gd_iret dX10_goesOn_82 ⟨fun b hb => (o_78 b hb).trans (o1 b hb), fun q hq => by rw [e_78, upd_ne _ _ (by omega)]; exact hp1 q hq, Or.inl ⟨u, h9, by omega, hfr, hno, gv (nI_add p 1), by rw [e_78, upd_ne _ _ (by omega)]; exact hu1, fun _ => by rw [e_78, upd_eq]⟩⟩
      · have hnf := gx_if1 c_30
        refine ga_aload_n 0 dX10_goesOn_33 rfl ?_
        refine ga_get kf_X10_48 (sh161 _) rfl dX10_goesOn_34 ?_
        refine ga_iload_n 1 dX10_goesOn_37 rfl ?_
        refine ga_dup2 dX10_goesOn_38 rfl rfl ?_
        refine ge_ialdE sh173 (gt_ixn (by omega)) hu1 dX10_goesOn_39 ?_
        refine ga_iconst (nI 1) dX10_goesOn_40 (by decide) ?_
        refine ga_iadd dX10_goesOn_41 ?_
        refine ga_top _ (nI_add u 1) ?_
        refine gw_iast (sh173) (gt_ixn (by omega)) dX10_goesOn_42 (fun w_42 o_42 e_42 => ?_)
        refine ga_goto 10 dX10_goesOn_43 (by decide) ?_
        refine ih (u + 1) (by omega) (by omega) (fun i h1 h2 => ?_) _ (fun b hb => (o_42 b hb).trans (o1 b hb)) (fun q hq => by rw [e_42, upd_ne _ _ (by omega)]; exact hp1 q hq) (by rw [e_42, upd_eq])
        by_cases e : i = u
        · rw [e]; exact fun q => hnf (Or.inr q)
        · exact hno i h1 (by omega)
  exact loop (K 0 1 + 1 - t9) t9 (by omega) (Nat.le_refl _) (fun i h1 h2 => absurd h2 (by omega)) _ o_9 (fun q hq => by rw [e_9, upd_ne _ _ (by omega)]) (by rw [e_9, upd_eq])
theorem gx_fold_skip {f : Nat → gx_Rg → gx_Rg} {s : gx_Rg} {a : Nat} : ∀ b, a ≤ b → (∀ i σ, a ≤ i → i < b → f i σ = σ) → gx_fold f b s = gx_fold f a s
  | 0, h, _ => by rw [show a = 0 by omega]
  | b + 1, h, hf => by
    by_cases e : a = b + 1
    · rw [e]
    · show f b (gx_fold f b s) = _
      rw [hf b _ (by omega) (by omega), gx_fold_skip b (by omega) (fun i σ h1 h2 => hf i σ h1 (by omega))]
/-- the plans of a prefix, tower by tower -/
def gx_stg (g : Nat → Nat → Nat) (ar : Nat → Nat) (P T A B j : Nat) (ρ : Nat → Nat) (σ : gx_Rg) (t : Nat) : gx_Rg := if t ≤ T then gx_fold (fun t σ => if gx_fr ρ (P - (j + 1)) t then gx_mf g ar P T A B j (gx_rs ρ (P - (j + 1)) (t + 1)) σ else σ) t σ else gx_mf g ar P T A B (j + 1) ρ σ
theorem gx_stg_0 {g : Nat → Nat → Nat} {ar : Nat → Nat} {P T A B j : Nat} {ρ : Nat → Nat} {σ : gx_Rg} : gx_stg g ar P T A B j ρ σ 0 = σ := if_pos (Nat.zero_le _)
theorem gx_stg_e {g : Nat → Nat → Nat} {ar : Nat → Nat} {P T A B j : Nat} {ρ : Nat → Nat} {σ : gx_Rg} : gx_stg g ar P T A B j ρ σ (T + 1) = gx_mf g ar P T A B (j + 1) ρ σ := if_neg (by omega)
/-- the next plan's value at the player -/
def gx_nxv (T u : Nat) : Nat := if u = T then 0 else u + 1
theorem gx_nxv_er (T u : Nat) : gx_er T (gx_nxv T u) = nI u := by
  unfold gx_nxv
  by_cases e : u = T
  · rw [if_pos e, e, gx_er_0]
  · rw [if_neg e, gx_er_s]
theorem gx_stg_u {g : Nat → Nat → Nat} {ar : Nat → Nat} {P T A B j : Nat} {ρ : Nat → Nat} {σ : gx_Rg} {t u : Nat} (h1 : t ≤ u) (h2 : u ≤ T) (h3 : u = T ∨ gx_fr ρ (P - (j + 1)) u) (h4 : ∀ i, t ≤ i → i < u → ¬ gx_fr ρ (P - (j + 1)) i) : gx_mf g ar P T A B j (gx_rs ρ (P - (j + 1)) (gx_nxv T u)) (gx_stg g ar P T A B j ρ σ t) = gx_stg g ar P T A B j ρ σ (u + 1) := by
  have e1 : gx_stg g ar P T A B j ρ σ t = gx_fold (fun t σ => if gx_fr ρ (P - (j + 1)) t then gx_mf g ar P T A B j (gx_rs ρ (P - (j + 1)) (t + 1)) σ else σ) u σ := by
    unfold gx_stg
    rw [if_pos (by omega)]
    exact (gx_fold_skip u h1 (fun i σ q1 q2 => if_neg (h4 i q1 q2))).symm
  rw [e1]
  unfold gx_nxv
  by_cases e : u = T
  · rw [if_pos e, e, gx_stg_e]; rfl
  · rw [if_neg e]
    unfold gx_stg
    rw [if_pos (by omega)]
    show _ = (if gx_fr ρ (P - (j + 1)) u then _ else _)
    rw [if_pos (h3.resolve_left e)]
theorem gx_vp_nv {T p u : Nat} {ρ : Nat → Nat} (h : gx_vp T p ρ) (h2 : u ≤ T) (h3 : u = T ∨ gx_fr ρ p u) : gx_vp T (p + 1) (gx_rs ρ p (gx_nxv T u)) := by
  unfold gx_nxv
  by_cases e : u = T
  · rw [if_pos e]; exact gx_vp_0 h
  · rw [if_neg e]; exact gx_vp_t h (by omega) (h3.resolve_left e)
/-- what plans leaves as it was -/
def gx_pF (w w' : gt_W) : Prop := (∀ b, b ≠ 161 → b ≠ 165 → b ≠ 173 → b ≠ 174 → w' b = w b) ∧ ∀ q, q ≠ 26 → q ≠ 27 → w' 161 q = w 161 q
set_option maxRecDepth 100000 in
set_option maxHeartbeats 4000000 in
theorem c_X10_plans {l : Launch} {G : gt_G} {n : Nat} {w : gt_W} {K V : gx_K} {m : Int32} {k9 d9 n9 : Nat} (hM : gx_mc (w 162) K) (kw : gx_KW K) (hV : gx_ms (w 164) K V m) (vw : gx_VW K V) (hk : k9 < K 0 0) (hd9 : d9 ≤ 99) (hn : n9 ≤ 20) : gt_D l G yX10_plans cX10_plans 5 none 6 n [.ref 161, .int (nI k9), .int (nI d9), .int (nI n9)] w (fun r w' => r = none ∧ gx_pF w w' ∧ gx_Bs w' (K 0 1) (K 0 2) (gx_mf (gx_g K V m k9 n9) (K 4) (K 0 2) (K 0 1) (gx_nA K k9 d9) (gx_nB K V k9 d9 n9) (K 0 2) (fun _ => 0) (100000000, 100000000, fun _ => 0))) := by
  have k2 := kw.2.2.1
  have k1 := kw.2.1
  refine gt_D_of (own := RX10) (nm := "plans") rfl rfl (by decide +kernel) (Nat.le_of_ble_eq_true rfl) ?_
  show gt_A _ _ _ _ _ _ _ _ _ _ _ [(0, .ref 161), (1, .int (nI k9)), (2, .int (nI d9)), (3, .int (nI n9))] _ _
  refine ga_aload_n 0 dX10_plans_0 rfl ?_
  refine ga_ldc_w kc_X10_269 dX10_plans_1 ?_
  refine gw_put 26 kp_X10_260 (sh161 _) (sh161 _) rfl rfl (Nat.le_of_ble_eq_true rfl) dX10_plans_4 (fun w_4 o_4 e_4 => ?_)
  refine ga_aload_n 0 dX10_plans_7 rfl ?_
  refine ga_ldc_w kc_X10_269 dX10_plans_8 ?_
  refine gw_put 27 kp_X10_263 (sh161 _) (sh161 _) rfl rfl (Nat.le_of_ble_eq_true rfl) dX10_plans_11 (fun w_11 o_11 e_11 => ?_)
  refine ga_iconst (nI 0) dX10_plans_14 (by decide) ?_
  refine gs_istore [(0, _), (1, _), (2, _), (3, _), (4, _)] dX10_plans_15 (by decide) rfl rfl ?_
  refine ga_aload_n 0 dX10_plans_17 rfl ?_
  refine ga_get kf_X10_48 (sh161 _) rfl dX10_plans_18 ?_
  refine ga_iconst (nI 0) dX10_plans_21 (by decide) ?_
  refine ga_iconst ((-1)) dX10_plans_22 (by decide) ?_
  refine gw_iast (sh173) (k := 0) (gt_ixn (by decide)) dX10_plans_23 (fun w_23 o_23 e_23 => ?_)
  have hF23 : gx_pF w w_23 := ⟨fun b h1 h2 h3 h4 => (o_23 b h3).trans ((o_11 b h1).trans (o_4 b h1)), fun q h1 h2 => by rw [o_23 161 (by decide), e_11, upd_ne _ _ h2, e_4, upd_ne _ _ h1]⟩
  have hB23 : gx_Bs w_23 (K 0 1) (K 0 2) (100000000, 100000000, fun _ => 0) := ⟨by rw [o_23 161 (by decide), e_11, upd_ne _ _ (by decide), e_4, upd_eq]; rfl, by rw [o_23 161 (by decide), e_11, upd_eq]; rfl, Nat.le_refl _, Nat.le_refl _, fun q => absurd q (Nat.lt_irrefl _)⟩
  have to50 : ∀ p (w1 : gt_W), p < K 0 2 → gx_pF w w1 → gt_A l G RX10 "plans" cX10_plans 5 none (gt_rm 6 0 0) (gt_ZD G n (fun r w' => r = none ∧ gx_pF w w' ∧ gx_Bs w' (K 0 1) (K 0 2) (gx_mf (gx_g K V m k9 n9) (K 4) (K 0 2) (K 0 1) (gx_nA K k9 d9) (gx_nB K V k9 d9 n9) (K 0 2) (fun _ => 0) (100000000, 100000000, fun _ => 0)))) (n, 0, 0) 50 [(0, .ref 161), (1, .int (nI k9)), (2, .int (nI d9)), (3, .int (nI n9)), (4, .int (nI p))] [] (gt_enc w1) → gt_A l G RX10 "plans" cX10_plans 5 none (gt_rm 6 0 0) (gt_ZD G n (fun r w' => r = none ∧ gx_pF w w' ∧ gx_Bs w' (K 0 1) (K 0 2) (gx_mf (gx_g K V m k9 n9) (K 4) (K 0 2) (K 0 1) (gx_nA K k9 d9) (gx_nB K V k9 d9 n9) (K 0 2) (fun _ => 0) (100000000, 100000000, fun _ => 0)))) (n, 0, 0) 24 [(0, .ref 161), (1, .int (nI k9)), (2, .int (nI d9)), (3, .int (nI n9)), (4, .int (nI p))] [] (gt_enc w1) := by
    intro p w1 hp hF1 h50
    have hM : gx_mc (w1 162) K := by rw [hF1.1 162 (by decide) (by decide) (by decide) (by decide)]; exact hM
    refine ga_iload 4 dX10_plans_24 rfl ?_
    refine ga_if_lt 71 dX10_plans_26 (by decide) (fun c_26 => absurd c_26 (nI_pos (by omega))) (fun c_26 => ?_)
    refine ga_iload 4 dX10_plans_29 rfl ?_
    refine ga_aload_n 0 dX10_plans_31 rfl ?_
    refine ga_get kf_X10_7 (sh161 _) rfl dX10_plans_32 ?_
    refine ga_iconst (nI 2) dX10_plans_35 (by decide) ?_
    refine gm_c2 hM dX10_plans_36 ?_
    refine ga_icmp_ne 50 dX10_plans_37 (by decide) (fun c_37 => ?_) (fun c_37 => absurd c_37 (fun q => by have := (nI_eq (by omega) (by omega)).mp q; omega))
    exact h50
  have sub : ∀ j, j ≤ K 0 2 → ∀ (ρ : Nat → Nat) (σ : gx_Rg) (w1 : gt_W), gx_vp (K 0 1) (K 0 2 - j) ρ → gx_pF w w1 → gx_Bs w1 (K 0 1) (K 0 2) σ → (∀ q, q < K 0 2 - j → w1 173 q = gx_er (K 0 1) (ρ q)) → (j ≠ 0 → w1 173 (K 0 2 - j) = -1) → (∀ w2 : gt_W, gx_pF w w2 → gx_Bs w2 (K 0 1) (K 0 2) (gx_mf (gx_g K V m k9 n9) (K 4) (K 0 2) (K 0 1) (gx_nA K k9 d9) (gx_nB K V k9 d9 n9) j ρ σ) → (∀ q, q < K 0 2 - j → w2 173 q = gx_er (K 0 1) (ρ q)) → gt_A l G RX10 "plans" cX10_plans 5 none (gt_rm 6 0 0) (gt_ZD G n (fun r w' => r = none ∧ gx_pF w w' ∧ gx_Bs w' (K 0 1) (K 0 2) (gx_mf (gx_g K V m k9 n9) (K 4) (K 0 2) (K 0 1) (gx_nA K k9 d9) (gx_nB K V k9 d9 n9) (K 0 2) (fun _ => 0) (100000000, 100000000, fun _ => 0)))) (n, 0, 0) 24 [(0, .ref 161), (1, .int (nI k9)), (2, .int (nI d9)), (3, .int (nI n9)), (4, .int (gx_seat (K 0 2 - j)))] [] (gt_enc w2) ∧ gt_A l G RX10 "plans" cX10_plans 5 none (gt_rm 6 0 0) (gt_ZD G n (fun r w' => r = none ∧ gx_pF w w' ∧ gx_Bs w' (K 0 1) (K 0 2) (gx_mf (gx_g K V m k9 n9) (K 4) (K 0 2) (K 0 1) (gx_nA K k9 d9) (gx_nB K V k9 d9 n9) (K 0 2) (fun _ => 0) (100000000, 100000000, fun _ => 0)))) (n, 0, 0) 50 [(0, .ref 161), (1, .int (nI k9)), (2, .int (nI d9)), (3, .int (nI n9)), (4, .int (gx_seat (K 0 2 - j)))] [] (gt_enc w2)) → gt_A l G RX10 "plans" cX10_plans 5 none (gt_rm 6 0 0) (gt_ZD G n (fun r w' => r = none ∧ gx_pF w w' ∧ gx_Bs w' (K 0 1) (K 0 2) (gx_mf (gx_g K V m k9 n9) (K 4) (K 0 2) (K 0 1) (gx_nA K k9 d9) (gx_nB K V k9 d9 n9) (K 0 2) (fun _ => 0) (100000000, 100000000, fun _ => 0)))) (n, 0, 0) 24 [(0, .ref 161), (1, .int (nI k9)), (2, .int (nI d9)), (3, .int (nI n9)), (4, .int (nI (K 0 2 - j)))] [] (gt_enc w1) := by
    intro j
    induction j with
    | zero =>
      intro _ ρ σ w1 hv hF1 hB hrow _ kk
      have hM : gx_mc (w1 162) K := by rw [hF1.1 162 (by decide) (by decide) (by decide) (by decide)]; exact hM
      have hV : gx_ms (w1 164) K V m := by rw [hF1.1 164 (by decide) (by decide) (by decide) (by decide)]; exact hV
      rw [Nat.sub_zero] at hv hrow kk ⊢
      refine ga_iload 4 dX10_plans_24 rfl ?_
      refine ga_if_lt 71 dX10_plans_26 (by decide) (fun c_26 => absurd c_26 (nI_pos (by omega))) (fun c_26 => ?_)
      refine ga_iload 4 dX10_plans_29 rfl ?_
      refine ga_aload_n 0 dX10_plans_31 rfl ?_
      refine ga_get kf_X10_7 (sh161 _) rfl dX10_plans_32 ?_
      refine ga_iconst (nI 2) dX10_plans_35 (by decide) ?_
      refine gm_c2 hM dX10_plans_36 ?_
      refine ga_icmp_ne 50 dX10_plans_37 (by decide) (fun c_37 => absurd rfl c_37) (fun c_37 => ?_)
      refine ga_aload_n 0 dX10_plans_40 rfl ?_
      refine ga_iload_n 1 dX10_plans_41 rfl ?_
      refine ga_iload_n 2 dX10_plans_42 rfl ?_
      refine ga_iload_n 3 dX10_plans_43 rfl ?_
      refine gd_V3 km_X10_270 kv_X10_weighs (c_X10_weighs hM kw hV vw hk hd9 hn hv hrow hB) (sh161 _) rfl rfl (gt_rc0 (by decide)) (Nat.le_of_ble_eq_true rfl) dX10_plans_44 (fun r_44 w_44 q_44 => ?_)
      obtain ⟨rfl, o44, q44, hB44⟩ := q_44
      refine gs_iinc 4 ((-1)) [(0, _), (1, _), (2, _), (3, _), (4, _)] dX10_plans_47 rfl (by decide) (by decide) rfl rfl ?_
      have h9 := (kk w_44 ⟨fun b h1 h2 h3 h4 => (o44 b h1 h2 h4).trans (hF1.1 b h1 h2 h3 h4), fun q h1 h2 => (q44 q h1 h2).trans (hF1.2 q h1 h2)⟩ hB44 (fun q hq => by rw [o44 173 (by decide) (by decide) (by decide)]; exact hrow q hq)).2
      rw [← gx_seat_dec] at h9
      exact h9
    | succ j ihj =>
      intro hj ρ σ w1 hv hF1 hB hrow hm1 kk
      obtain ⟨p, hp⟩ : ∃ p, p = K 0 2 - (j + 1) := ⟨_, rfl⟩
      have ep : K 0 2 - j = p + 1 := by omega
      have ihj := ihj (by omega)
      rw [ep] at ihj
      have hm1 := hm1 (by omega)
      rw [← hp] at hv hrow hm1 kk ⊢
      have inner : ∀ k t, K 0 1 + 1 < t + k → t ≤ K 0 1 + 1 → ∀ w2 : gt_W, gx_pF w w2 → gx_Bs w2 (K 0 1) (K 0 2) (gx_stg (gx_g K V m k9 n9) (K 4) (K 0 2) (K 0 1) (gx_nA K k9 d9) (gx_nB K V k9 d9 n9) j ρ σ t) → (∀ q, q < p → w2 173 q = gx_er (K 0 1) (ρ q)) → w2 173 p = gx_seat t → gt_A l G RX10 "plans" cX10_plans 5 none (gt_rm 6 0 0) (gt_ZD G n (fun r w' => r = none ∧ gx_pF w w' ∧ gx_Bs w' (K 0 1) (K 0 2) (gx_mf (gx_g K V m k9 n9) (K 4) (K 0 2) (K 0 1) (gx_nA K k9 d9) (gx_nB K V k9 d9 n9) (K 0 2) (fun _ => 0) (100000000, 100000000, fun _ => 0)))) (n, 0, 0) 50 [(0, .ref 161), (1, .int (nI k9)), (2, .int (nI d9)), (3, .int (nI n9)), (4, .int (nI p))] [] (gt_enc w2) := by
        intro k
        induction k with
        | zero => intro t h1 h2; omega
        | succ k ih =>
          intro t h1 h2 w2 hF2 hB2 hrow2 hp2
          have hM : gx_mc (w2 162) K := by rw [hF2.1 162 (by decide) (by decide) (by decide) (by decide)]; exact hM
          refine ga_iload 4 dX10_plans_50 rfl ?_
          refine ga_if_ge 60 dX10_plans_52 (by decide) (fun c_52 => ?_) (fun c_52 => absurd (nI_pos' (by omega)) c_52)
          refine ga_aload_n 0 dX10_plans_60 rfl ?_
          refine ga_iload 4 dX10_plans_61 rfl ?_
          refine gd_V1 km_X10_274 kv_X10_goesOn (c_X10_goesOn (t9 := t) hM kw (by omega) hv.1 hrow2 hp2 h2) (sh161 _) rfl rfl (gt_rc0 (by decide)) (Nat.le_of_ble_eq_true rfl) dX10_plans_63 (fun r_63 w_63 q_63 => ?_)
          obtain ⟨o63, r63, q63⟩ := q_63
          have hF3 : gx_pF w w_63 := ⟨fun b h1 h2 h3 h4 => (o63 b h3).trans (hF2.1 b h1 h2 h3 h4), fun q h1 h2 => by rw [o63 161 (by decide)]; exact hF2.2 q h1 h2⟩
          have hB3 := gx_Bs_eq (w' := w_63) (by rw [o63 161 (by decide)]) (by rw [o63 161 (by decide)]) (o63 174 (by decide)) hB2
          have hrow3 : (∀ q, q < p → w_63 173 q = gx_er (K 0 1) (ρ q)) := fun q hq => (r63 q hq).trans (hrow2 q hq)
          rcases q63 with ⟨u, hu1, hu2, hu3, hu4, rfl, hu5, hu6⟩ | ⟨ht, rfl⟩
          · refine gs_istore [(0, _), (1, _), (2, _), (3, _), (4, _)] dX10_plans_66 (by decide) rfl rfl ?_
            refine ga_goto 24 dX10_plans_68 (by decide) ?_
            refine ihj (gx_rs ρ p (gx_nxv (K 0 1) u)) _ w_63 (gx_vp_nv hv hu2 hu3) hF3 hB3 (fun q hq => ?_) (fun q => hu6 (by omega)) (fun w4 hF4 hB4 hrow4 => ?_)
            · by_cases e : q = p
              · rw [e, gx_rs_eq, gx_nxv_er]; exact hu5
              · rw [gx_rs_ne _ _ e]; exact hrow3 q (by omega)
            · have hs4 := hB4
              rw [hp, gx_stg_u hu1 hu2 (by rw [← hp]; exact hu3) (by rw [← hp]; exact hu4)] at hs4
              have h50 := ih (u + 1) (by omega) (by omega) w4 hF4 hs4 (fun q hq => by rw [hrow4 q (by omega), gx_rs_ne _ _ (by omega)]) (by rw [hrow4 p (by omega), gx_rs_eq, gx_nxv_er, gx_seat_s])
              rw [gx_seat_s]
              exact ⟨to50 p w4 (by omega) hF4 h50, h50⟩
          · refine gs_istore [(0, _), (1, _), (2, _), (3, _), (4, _)] dX10_plans_66 (by decide) rfl rfl ?_
            refine ga_goto 24 dX10_plans_68 (by decide) ?_
            exact (kk w_63 hF3 (by rw [ht, gx_stg_e] at hB3; exact hB3) hrow3).1
      exact to50 p w1 (by omega) hF1 (inner (K 0 1 + 2) 0 (by omega) (Nat.zero_le _) w1 hF1 (by rw [gx_stg_0]; exact hB) hrow (by rw [hm1]; rfl))
  have h9 := sub (K 0 2) (Nat.le_refl _) (fun _ => 0) (100000000, 100000000, fun _ => 0) w_23 (by rw [Nat.sub_self]; exact ⟨fun _ _ => Nat.zero_le _, fun _ _ _ _ _ n => absurd rfl n⟩) hF23 hB23 (fun q hq => absurd hq (by omega)) (fun _ => by rw [Nat.sub_self, e_23, upd_eq])
  rw [Nat.sub_self] at h9
  refine h9 (fun w2 hF2 hB2 hr2 => ?_)
  have h24 : gt_A l G RX10 "plans" cX10_plans 5 none (gt_rm 6 0 0) (gt_ZD G n (fun r w' => r = none ∧ gx_pF w w' ∧ gx_Bs w' (K 0 1) (K 0 2) (gx_mf (gx_g K V m k9 n9) (K 4) (K 0 2) (K 0 1) (gx_nA K k9 d9) (gx_nB K V k9 d9 n9) (K 0 2) (fun _ => 0) (100000000, 100000000, fun _ => 0)))) (n, 0, 0) 24 [(0, .ref 161), (1, .int (nI k9)), (2, .int (nI d9)), (3, .int (nI n9)), (4, .int (gx_seat 0))] [] (gt_enc w2) := by
    refine ga_iload 4 dX10_plans_24 rfl ?_
    refine ga_if_lt 71 dX10_plans_26 (by decide) (fun c_26 => ?_) (fun c_26 => absurd (by decide) c_26)
    exact gd_vret dX10_plans_71 ⟨rfl, hF2, hB2⟩
  refine ⟨h24, ?_⟩
  refine ga_iload 4 dX10_plans_50 rfl ?_
  refine ga_if_ge 60 dX10_plans_52 (by decide) (fun c_52 => absurd c_52 (by decide)) (fun c_52 => ?_)
  refine ga_iload 4 dX10_plans_55 rfl ?_
  refine ga_goto 66 dX10_plans_57 (by decide) ?_
  refine gs_istore [(0, _), (1, _), (2, _), (3, _), (4, _)] dX10_plans_66 (by decide) rfl rfl ?_
  refine ga_goto 24 dX10_plans_68 (by decide) ?_
  exact h24
