/-! guts, sleepers, the best mark, by the reference -/
abbrev gx_gt (Q : gx_K) (g t : Nat) : Prop := ∀ i, i < t → Q 4 i - g * Q 5 i = Q 6 i
theorem gx_ball_t {P : Nat → Prop} {t : Nat} (h : ∀ i, i < t → P i) (ht : P t) : ∀ i, i < t + 1 → P i := fun i hi => by
  by_cases e : i = t
  · rw [e]; exact ht
  · exact h i (by omega)
theorem gx_if1 {P : Prop} [Decidable P] (h : (if P then nI 1 else nI 0) = 0) : ¬ P := fun q => by rw [if_pos q] at h; exact absurd h (by decide)
theorem gx_if0 {P : Prop} [Decidable P] (h : ¬ (if P then nI 1 else nI 0) = 0) : P := Decidable.byContradiction fun q => h (by rw [if_neg q]; exact nI_0)
set_option maxRecDepth 100000 in
set_option maxHeartbeats 4000000 in
theorem c_X10_guts {l : Launch} {G : gt_G} {n : Nat} {w : gt_W} {K Q : gx_K} (hQ : gx_mn w Q) (qw : gx_QW K Q) : gt_C l G yX10_guts cX10_guts 5 (some .int) 2 0 0 n [.ref 161] (gt_enc w) (some (.int (gx_set (fun g => 1 ≤ g ∧ gx_gut Q g) 21))) (gt_enc (w)) := by
  have hq1 := qw.1.2.1
  refine gt_C_of (own := RX10) (nm := "guts") rfl rfl (by decide +kernel) (Nat.le_of_ble_eq_true rfl) ?_
  show gt_A _ _ _ _ _ _ _ _ _ _ _ [(0, .ref 161)] _ _
  refine ga_iconst (nI 0) dX10_guts_0 (by decide) ?_
  refine gs_istore_n [(0, _), (1, _)] dX10_guts_1 (by decide) rfl rfl ?_
  refine ga_iconst (nI 1) dX10_guts_2 (by decide) ?_
  refine gs_istore_n [(0, _), (1, _), (2, _)] dX10_guts_3 (by decide) rfl rfl ?_
  have loop : ∀ j t, t + j = 21 → 1 ≤ t → gt_A l G RX10 "guts" cX10_guts 5 (some .int) (gt_rm 2 0 0) (gt_Z G (n + 0) 0 0 (some (.int (gx_set (fun g => 1 ≤ g ∧ gx_gut Q g) 21))) (gt_enc (w))) (n, 0, 0) 4 [(0, .ref 161), (1, .int (gx_set (fun g => 1 ≤ g ∧ gx_gut Q g) t)), (2, .int (nI t))] [] (gt_enc w) := by
    intro j
    induction j with
    | zero =>
      intro t ht h1t
      have et : t = 21 := by omega
      refine ga_iload_n 2 dX10_guts_4 rfl ?_
      refine ga_bipush (nI 21) dX10_guts_5 (by decide) ?_
      refine ga_icmp_ge 97 dX10_guts_7 (by decide) (fun c_7 => ?_) (fun c_7 => absurd (nI_le (by omega) (by omega)) c_7)
      refine ga_iload_n 1 dX10_guts_97 rfl ?_
      exact ga_iret dX10_guts_98 (gv (by rw [et])) rfl
    | succ j ih =>
      intro t ht h1t
      refine ga_iload_n 2 dX10_guts_4 rfl ?_
      refine ga_bipush (nI 21) dX10_guts_5 (by decide) ?_
      refine ga_icmp_ge 97 dX10_guts_7 (by decide) (fun c_7 => absurd c_7 (nI_ge (by omega) (by omega))) (fun c_7 => ?_)
      refine ga_iconst (nI 1) dX10_guts_10 (by decide) ?_
      refine gs_istore_n [(0, _), (1, _), (2, _), (3, _)] dX10_guts_11 (by decide) rfl rfl ?_
      refine ga_iconst (nI 0) dX10_guts_12 (by decide) ?_
      refine gs_istore [(0, _), (1, _), (2, _), (3, _), (4, _)] dX10_guts_13 (by decide) rfl rfl ?_
      have loop2 : ∀ j2 i, i + j2 = Q 0 1 → gt_A l G RX10 "guts" cX10_guts 5 (some .int) (gt_rm 2 0 0) (gt_Z G (n + 0) 0 0 (some (.int (gx_set (fun g => 1 ≤ g ∧ gx_gut Q g) 21))) (gt_enc (w))) (n, 0, 0) 15 [(0, .ref 161), (1, .int (gx_set (fun g => 1 ≤ g ∧ gx_gut Q g) t)), (2, .int (nI t)), (3, .int (if gx_gt Q t i then nI 1 else nI 0)), (4, .int (nI (3 * i)))] [] (gt_enc w) := by
        intro j2
        induction j2 with
        | zero =>
          intro i ht
          have ei : i = Q 0 1 := by omega
          refine ga_iload 4 dX10_guts_15 rfl ?_
          refine ga_iconst (nI 3) dX10_guts_17 (by decide) ?_
          refine ga_aload_n 0 dX10_guts_18 rfl ?_
          refine ga_get kf_X10_78 (sh161 _) (gv hQ.1.2.1) dX10_guts_19 ?_
          refine ga_imul dX10_guts_22 ?_
          refine ga_icmp_ge 77 dX10_guts_23 (by decide) (fun c_23 => ?_) (fun c_23 => absurd (by rw [pk_mul]; exact nI_le (by omega) (by omega)) c_23)
          refine ga_iload_n 1 dX10_guts_77 rfl ?_
          refine ga_iload_n 3 dX10_guts_78 rfl ?_
          refine ga_if_eq 88 dX10_guts_79 (by decide) (fun c_79 => ?_) (fun c_79 => ?_)
          · have hP : ¬ (1 ≤ t ∧ gx_gut Q t) := fun q => gx_if1 c_79 (fun a ha => q.2 a (by omega))
            refine ga_iconst (nI 0) dX10_guts_88 (by decide) ?_
            refine ga_ior dX10_guts_89 ?_
            refine gs_istore_n [(0, _), (1, _), (2, _), (3, _), (4, _)] dX10_guts_90 (by decide) rfl rfl ?_
            refine gs_iincN 2 1 [(0, _), (1, _), (2, _), (3, _), (4, _)] dX10_guts_91 rfl (by decide) (by decide) rfl rfl ?_
            refine ga_goto 4 dX10_guts_94 (by decide) ?_
            refine ga_take 3 ?_
            have h9 := ih (t + 1) (by omega) (by omega)
            first | (rw [gx_set_t (P := (fun g => 1 ≤ g ∧ gx_gut Q g)) hP] at h9; exact h9) | (rw [gx_set_f (P := (fun g => 1 ≤ g ∧ gx_gut Q g)) hP] at h9; rw [gx_or0]; exact h9)
          · have hP : 1 ≤ t ∧ gx_gut Q t := ⟨h1t, fun a ha => gx_if0 c_79 a (by omega)⟩
            refine ga_iconst (nI 1) dX10_guts_82 (by decide) ?_
            refine ga_iload_n 2 dX10_guts_83 rfl ?_
            refine ga_ishl dX10_guts_84 ?_
            refine ga_goto 89 dX10_guts_85 (by decide) ?_
            refine ga_ior dX10_guts_89 ?_
            refine gs_istore_n [(0, _), (1, _), (2, _), (3, _), (4, _)] dX10_guts_90 (by decide) rfl rfl ?_
            refine gs_iincN 2 1 [(0, _), (1, _), (2, _), (3, _), (4, _)] dX10_guts_91 rfl (by decide) (by decide) rfl rfl ?_
            refine ga_goto 4 dX10_guts_94 (by decide) ?_
            refine ga_take 3 ?_
            have h9 := ih (t + 1) (by omega) (by omega)
            first | (rw [gx_set_t (P := (fun g => 1 ≤ g ∧ gx_gut Q g)) hP] at h9; exact h9) | (rw [gx_set_f (P := (fun g => 1 ≤ g ∧ gx_gut Q g)) hP] at h9; rw [gx_or0]; exact h9)
        | succ j2 ih2 =>
          intro i ht
          have h9s := hQ.2.2.1 i (by omega)
          have hqs := qw.2.2.1 i (by omega)
          have hmm : t * Q 5 i ≤ 21 * 9 := Nat.mul_le_mul (by omega) hqs.2.1
          refine ga_iload 4 dX10_guts_15 rfl ?_
          refine ga_iconst (nI 3) dX10_guts_17 (by decide) ?_
          refine ga_aload_n 0 dX10_guts_18 rfl ?_
          refine ga_get kf_X10_78 (sh161 _) (gv hQ.1.2.1) dX10_guts_19 ?_
          refine ga_imul dX10_guts_22 ?_
          refine ga_icmp_ge 77 dX10_guts_23 (by decide) (fun c_23 => absurd c_23 (by rw [pk_mul]; exact nI_ge (by omega) (by omega))) (fun c_23 => ?_)
          refine ga_iload_n 3 dX10_guts_26 rfl ?_
          refine ga_if_eq 69 dX10_guts_27 (by decide) (fun c_27 => ?_) (fun c_27 => ?_)
          · have hg : ¬ gx_gt Q t (i + 1) := fun q => gx_if1 c_27 (fun a ha => q a (by omega))
            refine ga_iconst (nI 0) dX10_guts_69 (by decide) ?_
            refine gs_istore_n [(0, _), (1, _), (2, _), (3, _), (4, _)] dX10_guts_70 (by decide) rfl rfl ?_
            refine gs_iincN 4 3 [(0, _), (1, _), (2, _), (3, _), (4, _)] dX10_guts_71 rfl (by decide) (by decide) rfl rfl ?_
            refine ga_goto 15 dX10_guts_74 (by decide) ?_
            have h9 := ih2 (i + 1) (by omega)
            first | (rw [if_pos hg] at h9; exact h9) | (rw [if_neg hg] at h9; exact h9)
          · have hg0 := gx_if0 c_27
            refine ga_iconst (nI 0) dX10_guts_30 (by decide) ?_
            refine ga_aload_n 0 dX10_guts_31 rfl ?_
            refine ga_get kf_X10_42 (sh161 _) rfl dX10_guts_32 ?_
            refine ga_iload 4 dX10_guts_35 rfl ?_
            refine ge_ialdE sh171 (k := 3 * i) (gt_ixn (by omega)) h9s.1 dX10_guts_37 ?_
            refine ga_iload_n 2 dX10_guts_38 rfl ?_
            refine ga_aload_n 0 dX10_guts_39 rfl ?_
            refine ga_get kf_X10_42 (sh161 _) rfl dX10_guts_40 ?_
            refine ga_iload 4 dX10_guts_43 rfl ?_
            refine ga_iconst (nI 1) dX10_guts_45 (by decide) ?_
            refine ga_iadd dX10_guts_46 ?_
            refine ge_ialdE sh171 (k := 3 * i + 1) (gt_ixe (nI_add (3 * i) 1) (by omega) (by decide)) h9s.2.1 dX10_guts_47 ?_
            refine ga_imul dX10_guts_48 ?_
            refine ga_top (nI (t * Q 5 i)) (pk_mul _ _) ?_
            refine ga_isub dX10_guts_49 ?_
            refine ga_S2 km_X10_147 kv_X10_greater c_X10_greater (gt_rc0 (by decide)) (Nat.le_of_ble_eq_true rfl) dX10_guts_50 ?_
            refine ga_top (nI (Q 4 i - t * Q 5 i)) (gx_max0' (by omega) (by omega)) ?_
            refine ga_aload_n 0 dX10_guts_53 rfl ?_
            refine ga_get kf_X10_42 (sh161 _) rfl dX10_guts_54 ?_
            refine ga_iload 4 dX10_guts_57 rfl ?_
            refine ga_iconst (nI 2) dX10_guts_59 (by decide) ?_
            refine ga_iadd dX10_guts_60 ?_
            refine ge_ialdE sh171 (k := 3 * i + 2) (gt_ixe (nI_add (3 * i) 2) (by omega) (by decide)) h9s.2.2 dX10_guts_61 ?_
            refine ga_icmp_ne 69 dX10_guts_62 (by decide) (fun c_62 => ?_) (fun c_62 => ?_)
            · have hg : ¬ gx_gt Q t (i + 1) := fun q => c_62 (by rw [q i (by omega)])
              refine ga_iconst (nI 0) dX10_guts_69 (by decide) ?_
              refine gs_istore_n [(0, _), (1, _), (2, _), (3, _), (4, _)] dX10_guts_70 (by decide) rfl rfl ?_
              refine gs_iincN 4 3 [(0, _), (1, _), (2, _), (3, _), (4, _)] dX10_guts_71 rfl (by decide) (by decide) rfl rfl ?_
              refine ga_goto 15 dX10_guts_74 (by decide) ?_
              have h9 := ih2 (i + 1) (by omega)
              first | (rw [if_pos hg] at h9; exact h9) | (rw [if_neg hg] at h9; exact h9)
            · have hg : gx_gt Q t (i + 1) := gx_ball_t hg0 ((nI_eq (by omega) (by omega)).mp c_62)
              refine ga_iconst (nI 1) dX10_guts_65 (by decide) ?_
              refine ga_goto 70 dX10_guts_66 (by decide) ?_
              refine gs_istore_n [(0, _), (1, _), (2, _), (3, _), (4, _)] dX10_guts_70 (by decide) rfl rfl ?_
              refine gs_iincN 4 3 [(0, _), (1, _), (2, _), (3, _), (4, _)] dX10_guts_71 rfl (by decide) (by decide) rfl rfl ?_
              refine ga_goto 15 dX10_guts_74 (by decide) ?_
              have h9 := ih2 (i + 1) (by omega)
              first | (rw [if_pos hg] at h9; exact h9) | (rw [if_neg hg] at h9; exact h9)
      have h9 := loop2 (Q 0 1) 0 (by omega)
      rw [if_pos (fun a ha => absurd ha (Nat.not_lt_zero a))] at h9
      exact h9
  exact loop 20 1 (by omega) (by omega)
abbrev gx_thn (w : gt_W) (p : Nat) (K V : gx_K) (N : Nat) : Prop := ∀ n k, n < N → k < K 0 0 → w 175 (200 * p + 10 * n + k) = nI (gx_sea K (gx_wn K V (gx_sp p) (n + 1)) k)
set_option maxRecDepth 100000 in
set_option maxHeartbeats 4000000 in
theorem c_X10_layThen {l : Launch} {G : gt_G} {n : Nat} {w : gt_W} {K V : gx_K} {m : Int32} {p : Nat} (hM : gx_mc (w 162) K) (kw : gx_KW K) (hV : gx_ms (w 164) K V m) (vw : gx_VW K V) (hp : p < 6) : gt_D l G yX10_layThen cX10_layThen 4 none 4 n [.ref 161, .int (nI p)] w (fun r w' => r = none ∧ (∀ b, b ≠ 165 → b ≠ 175 → w' b = w b) ∧ gx_thn w' p K V 20 ∧ ∀ q, (q < 200 * p ∨ 200 * p + 200 ≤ q) → w' 175 q = w 175 q) := by
  refine gt_D_of (own := RX10) (nm := "layThen") rfl rfl (by decide +kernel) (Nat.le_of_ble_eq_true rfl) ?_
  show gt_A _ _ _ _ _ _ _ _ _ _ _ [(0, .ref 161), (1, .int (nI p))] _ _
  refine ga_aload_n 0 dX10_layThen_0 rfl ?_
  refine gd_V0 km_X10_257 kv_X10_layAside c_X10_layAside (sh161 _) rfl rfl (gt_rc0 (by decide)) (Nat.le_of_ble_eq_true rfl) dX10_layThen_1 (fun r_1 w_1 q_1 => ?_)
  obtain ⟨rfl, oL, hcp⟩ := q_1
  have hT := hcp K V m kw hV
  have hM0 := hM
  refine ga_aload_n 0 dX10_layThen_4 rfl ?_
  refine ga_get kf_X10_19 (sh161 _) rfl dX10_layThen_5 ?_
  refine ga_bipush (nI 18) dX10_layThen_8 (by decide) ?_
  refine ga_iconst (nI 1) dX10_layThen_10 (by decide) ?_
  refine ga_iload_n 1 dX10_layThen_11 rfl ?_
  refine ga_ishl dX10_layThen_12 ?_
  refine gmw_sm sh165 hT kw dX10_layThen_13 (fun w_13 o_13 hT => ?_)
  have o0 : ∀ b, b ≠ 165 → b ≠ 175 → w_13 b = w b := fun b h1 _ => (o_13 b h1).trans (oL b h1)
  have hT : gx_ms (w_13 165) K (gx_wn K V (gx_sp p) 0) (gx_sp p) := hT
  refine ga_iconst (nI 0) dX10_layThen_14 (by decide) ?_
  refine gs_istore_n [(0, _), (1, _), (2, _)] dX10_layThen_15 (by decide) rfl rfl ?_
  have loop : ∀ j t, t + j = 20 → ∀ w2 : gt_W, (∀ b, b ≠ 165 → b ≠ 175 → w2 b = w b) → gx_ms (w2 165) K (gx_wn K V (gx_sp p) t) (gx_sp p) → gx_thn w2 p K V t → (∀ q, (q < 200 * p ∨ 200 * p + 200 ≤ q) → w2 175 q = w 175 q) → gt_A l G RX10 "layThen" cX10_layThen 4 none (gt_rm 4 0 0) (gt_ZD G n (fun r w' => r = none ∧ (∀ b, b ≠ 165 → b ≠ 175 → w' b = w b) ∧ gx_thn w' p K V 20 ∧ ∀ q, (q < 200 * p ∨ 200 * p + 200 ≤ q) → w' 175 q = w 175 q)) (n, 0, 0) 16 [(0, .ref 161), (1, .int (nI p)), (2, .int (nI t))] [] (gt_enc w2) := by
    intro j
    induction j with
    | zero =>
      intro t ht w2 o2 hT hn hq
      have et : t = 20 := by omega
      refine ga_iload_n 2 dX10_layThen_16 rfl ?_
      refine ga_bipush (nI 20) dX10_layThen_17 (by decide) ?_
      refine ga_icmp_ge 80 dX10_layThen_19 (by decide) (fun c_19 => ?_) (fun c_19 => absurd (nI_le (by omega) (by omega)) c_19)
      exact gd_vret dX10_layThen_80 ⟨rfl, o2, by rw [et] at hn; exact hn, hq⟩
    | succ j ih =>
      intro t ht w2 o2 hT hn hq
      have hM : gx_mc (w2 162) K := by rw [o2 162 (by decide) (by decide)]; exact hM0
      refine ga_iload_n 2 dX10_layThen_16 rfl ?_
      refine ga_bipush (nI 20) dX10_layThen_17 (by decide) ?_
      refine ga_icmp_ge 80 dX10_layThen_19 (by decide) (fun c_19 => absurd c_19 (nI_ge (by omega) (by omega))) (fun c_19 => ?_)
      refine ga_aload_n 0 dX10_layThen_22 rfl ?_
      refine ga_aload_n 0 dX10_layThen_23 rfl ?_
      refine ga_get kf_X10_19 (sh161 _) rfl dX10_layThen_24 ?_
      refine gd_V1 km_X10_215 kv_X10_winds (c_X10_winds hM kw as165 hT (gx_wn_VW vw t)) (sh161 _) rfl rfl (gt_rc0 (by decide)) (Nat.le_of_ble_eq_true rfl) dX10_layThen_27 (fun r_27 w_27 q_27 => ?_)
      obtain ⟨rfl, o27, hT⟩ := q_27
      have hn : gx_thn w_27 p K V t := fun n k h1 h2 => by rw [o27 175 (by decide)]; exact hn n k h1 h2
      have hq : ∀ q, (q < 200 * p ∨ 200 * p + 200 ≤ q) → w_27 175 q = w 175 q := fun q h => by rw [o27 175 (by decide)]; exact hq q h
      have o2 : ∀ b, b ≠ 165 → b ≠ 175 → w_27 b = w b := fun b h1 h2 => (o27 b h1).trans (o2 b h1 h2)
      refine ga_iconst (nI 0) dX10_layThen_30 (by decide) ?_
      refine gs_istore_n [(0, _), (1, _), (2, _), (3, _)] dX10_layThen_31 (by decide) rfl rfl ?_
      have loop2 : ∀ j2 u, u + j2 = K 0 0 → ∀ w3 : gt_W, (∀ b, b ≠ 165 → b ≠ 175 → w3 b = w b) → gx_ms (w3 165) K (gx_wn K V (gx_sp p) (t + 1)) (gx_sp p) → gx_thn w3 p K V t → (∀ q, q < u → w3 175 (200 * p + 10 * t + q) = nI (gx_sea K (gx_wn K V (gx_sp p) (t + 1)) q)) → (∀ q, (q < 200 * p ∨ 200 * p + 200 ≤ q) → w3 175 q = w 175 q) → gt_A l G RX10 "layThen" cX10_layThen 4 none (gt_rm 4 0 0) (gt_ZD G n (fun r w' => r = none ∧ (∀ b, b ≠ 165 → b ≠ 175 → w' b = w b) ∧ gx_thn w' p K V 20 ∧ ∀ q, (q < 200 * p ∨ 200 * p + 200 ≤ q) → w' 175 q = w 175 q)) (n, 0, 0) 32 [(0, .ref 161), (1, .int (nI p)), (2, .int (nI t)), (3, .int (nI u))] [] (gt_enc w3) := by
        intro j2
        induction j2 with
        | zero =>
          intro u ht w3 o3 hT hn hi hq
          have eu : u = K 0 0 := by omega
          have hM : gx_mc (w3 162) K := by rw [o3 162 (by decide) (by decide)]; exact hM0
          refine ga_iload_n 3 dX10_layThen_32 rfl ?_
          refine ga_aload_n 0 dX10_layThen_33 rfl ?_
          refine ga_get kf_X10_7 (sh161 _) rfl dX10_layThen_34 ?_
          refine ga_iconst (nI 0) dX10_layThen_37 (by decide) ?_
          refine gm_c0 hM dX10_layThen_38 ?_
          refine ga_icmp_ge 74 dX10_layThen_39 (by decide) (fun c_39 => ?_) (fun c_39 => absurd (nI_le (by omega) (by have := kw.1; omega)) c_39)
          refine gs_iincN 2 1 [(0, _), (1, _), (2, _), (3, _)] dX10_layThen_74 rfl (by decide) (by decide) rfl rfl ?_
          refine ga_goto 16 dX10_layThen_77 (by decide) ?_
          refine ga_take 3 ?_
          refine ih (t + 1) (by omega) _ o3 hT (fun n k hn1 hk => ?_) hq
          by_cases e : n = t
          · rw [e]; exact hi k (by omega)
          · exact hn n k (by omega) hk
        | succ j2 ih2 =>
          intro u ht w3 o3 hT hn hi hq
          have hM : gx_mc (w3 162) K := by rw [o3 162 (by decide) (by decide)]; exact hM0
          have k0 := kw.1
          refine ga_iload_n 3 dX10_layThen_32 rfl ?_
          refine ga_aload_n 0 dX10_layThen_33 rfl ?_
          refine ga_get kf_X10_7 (sh161 _) rfl dX10_layThen_34 ?_
          refine ga_iconst (nI 0) dX10_layThen_37 (by decide) ?_
          refine gm_c0 hM dX10_layThen_38 ?_
          refine ga_icmp_ge 74 dX10_layThen_39 (by decide) (fun c_39 => absurd c_39 (nI_ge (by omega) (by have := kw.1; omega))) (fun c_39 => ?_)
          refine ga_aload_n 0 dX10_layThen_42 rfl ?_
          refine ga_get kf_X10_54 (sh161 _) rfl dX10_layThen_43 ?_
          refine ga_sipush (nI 200) dX10_layThen_46 (by decide) ?_
          refine ga_iload_n 1 dX10_layThen_49 rfl ?_
          refine ga_imul dX10_layThen_50 ?_
          refine ga_bipush (nI 10) dX10_layThen_51 (by decide) ?_
          refine ga_iload_n 2 dX10_layThen_53 rfl ?_
          refine ga_imul dX10_layThen_54 ?_
          refine ga_iadd dX10_layThen_55 ?_
          refine ga_iload_n 3 dX10_layThen_56 rfl ?_
          refine ga_iadd dX10_layThen_57 ?_
          refine ga_aload_n 0 dX10_layThen_58 rfl ?_
          refine ga_aload_n 0 dX10_layThen_59 rfl ?_
          refine ga_get kf_X10_19 (sh161 _) rfl dX10_layThen_60 ?_
          refine ga_iload_n 3 dX10_layThen_63 rfl ?_
          refine ga_V2 km_X10_155 kv_X10_seaOn (c_X10_seaOn hM kw as165 hT (gx_wn_VW vw (t + 1)) (by omega)) (sh161 _) rfl rfl (gt_rc0 (by decide)) (Nat.le_of_ble_eq_true rfl) dX10_layThen_64 ?_
          refine gw_iast (sh175) (k := 200 * p + 10 * t + u) (gt_ixe (show nI 200 * nI p + nI 10 * nI t + nI u = nI (200 * p + 10 * t + u) by rw [pk_mul, pk_mul, nI_add, nI_add]) (by omega) (by decide)) dX10_layThen_67 (fun w_67 o_67 e_67 => ?_)
          refine gs_iincN 3 1 [(0, _), (1, _), (2, _), (3, _)] dX10_layThen_68 rfl (by decide) (by decide) rfl rfl ?_
          refine ga_goto 32 dX10_layThen_71 (by decide) ?_
          refine ih2 (u + 1) (by omega) _ (fun b h1 h2 => by rw [o_67 b h2]; exact o3 b h1 h2) (by rw [o_67 165 (by decide)]; exact hT) (fun n k hn1 hk => ?_) (fun q hq1 => ?_) (fun q hq1 => ?_)
          · rw [e_67, upd_ne _ _ (by omega)]; exact hn n k hn1 hk
          · rw [e_67]
            by_cases e : q = u
            · rw [e, upd_eq]
            · rw [upd_ne _ _ (by omega)]; exact hi q (by omega)
          · rw [e_67, upd_ne _ _ (by omega)]; exact hq q hq1
      exact loop2 (K 0 0) 0 (by omega) _ o2 hT hn (fun q hq => absurd hq (Nat.not_lt_zero q)) hq
  exact loop 20 0 (by omega) _ o0 hT (fun n k h1 h2 => absurd h1 (Nat.not_lt_zero n)) (fun q _ => by rw [o_13 175 (by decide), oL 175 (by decide)])
abbrev gx_ft (K V Q : gx_K) (p t : Nat) : Prop := ∀ i, i < t → gx_sea K (gx_wn K V (gx_sp p) (Q 2 i)) (Q 1 i) = Q 3 i
set_option maxRecDepth 100000 in
set_option maxHeartbeats 4000000 in
theorem c_X10_slept {l : Launch} {G : gt_G} {n : Nat} {w : gt_W} {K V : gx_K} {m : Int32} {Q : gx_K} (hM : gx_mc (w 162) K) (kw : gx_KW K) (hV : gx_ms (w 164) K V m) (vw : gx_VW K V) (hQ : gx_mn w Q) (qw : gx_QW K Q) : gt_D l G yX10_slept cX10_slept 5 (some .int) 5 n [.ref 161] w (fun r w' => r = some (.int (gx_set (fun p => ¬ V 2 p = 0 ∧ gx_fit K V Q p) (K 0 2))) ∧ (∀ b, b ≠ 165 → b ≠ 175 → w' b = w b) ∧ ∀ p, p < K 0 2 → ¬ V 2 p = 0 → gx_thn w' p K V 20) := by
  have hM0 := hM
  have hV0 := hV
  have hq1 := qw.1.1
  refine gt_D_of (own := RX10) (nm := "slept") rfl rfl (by decide +kernel) (Nat.le_of_ble_eq_true rfl) ?_
  show gt_A _ _ _ _ _ _ _ _ _ _ _ [(0, .ref 161)] _ _
  refine ga_iconst (nI 0) dX10_slept_0 (by decide) ?_
  refine gs_istore_n [(0, _), (1, _)] dX10_slept_1 (by decide) rfl rfl ?_
  refine ga_iconst (nI 0) dX10_slept_2 (by decide) ?_
  refine gs_istore_n [(0, _), (1, _), (2, _)] dX10_slept_3 (by decide) rfl rfl ?_
  have loop : ∀ j t, t + j = K 0 2 → ∀ w1 : gt_W, (∀ b, b ≠ 165 → b ≠ 175 → w1 b = w b) → (∀ p, p < t → ¬ V 2 p = 0 → gx_thn w1 p K V 20) → gt_A l G RX10 "slept" cX10_slept 5 (some .int) (gt_rm 5 0 0) (gt_ZD G n (fun r w' => r = some (.int (gx_set (fun p => ¬ V 2 p = 0 ∧ gx_fit K V Q p) (K 0 2))) ∧ (∀ b, b ≠ 165 → b ≠ 175 → w' b = w b) ∧ ∀ p, p < K 0 2 → ¬ V 2 p = 0 → gx_thn w' p K V 20)) (n, 0, 0) 4 [(0, .ref 161), (1, .int (gx_set (fun p => ¬ V 2 p = 0 ∧ gx_fit K V Q p) t)), (2, .int (nI t))] [] (gt_enc w1) := by
    intro j
    induction j with
    | zero =>
      intro t ht w1 o1 hth1
      have et : t = K 0 2 := by omega
      have hM : gx_mc (w1 162) K := by rw [o1 162 (by decide) (by decide)]; exact hM0
      refine ga_iload_n 2 dX10_slept_4 rfl ?_
      refine ga_aload_n 0 dX10_slept_5 rfl ?_
      refine ga_get kf_X10_7 (sh161 _) rfl dX10_slept_6 ?_
      refine ga_iconst (nI 2) dX10_slept_9 (by decide) ?_
      refine gm_c2 hM dX10_slept_10 ?_
      refine ga_icmp_ge 129 dX10_slept_11 (by decide) (fun c_11 => ?_) (fun c_11 => absurd (nI_le (by omega) (by have := kw.2.2.1; omega)) c_11)
      refine ga_iload_n 1 dX10_slept_129 rfl ?_
      exact gd_iret dX10_slept_130 ⟨by rw [et], o1, by rw [et] at hth1; exact hth1⟩
    | succ j ih =>
      intro t ht w1 o1 hth1
      have hM : gx_mc (w1 162) K := by rw [o1 162 (by decide) (by decide)]; exact hM0
      have hV : gx_ms (w1 164) K V m := by rw [o1 164 (by decide) (by decide)]; exact hV0
      have k2 := kw.2.2.1
      refine ga_iload_n 2 dX10_slept_4 rfl ?_
      refine ga_aload_n 0 dX10_slept_5 rfl ?_
      refine ga_get kf_X10_7 (sh161 _) rfl dX10_slept_6 ?_
      refine ga_iconst (nI 2) dX10_slept_9 (by decide) ?_
      refine gm_c2 hM dX10_slept_10 ?_
      refine ga_icmp_ge 129 dX10_slept_11 (by decide) (fun c_11 => absurd c_11 (nI_ge (by omega) (by have := kw.2.2.1; omega))) (fun c_11 => ?_)
      refine ga_aload_n 0 dX10_slept_14 rfl ?_
      refine ga_get kf_X10_16 (sh161 _) rfl dX10_slept_15 ?_
      refine ga_bipush (nI 12) dX10_slept_18 (by decide) ?_
      refine ga_iload_n 2 dX10_slept_20 rfl ?_
      refine ga_iadd dX10_slept_21 ?_
      refine gm_S2 sh164 hV kw (by omega) dX10_slept_22 ?_
      refine ga_iconst ((-1)) dX10_slept_23 (by decide) ?_
      refine ga_icmp_eq 123 dX10_slept_24 (by decide) (fun c_24 => ?_) (fun c_24 => ?_)
      · have hz : V 2 t = 0 := (gx_seat_m1 (by have := vw.2.2.1 t (by omega); have := kw.2.1; omega)).mp c_24
        have hP : ¬ (¬ V 2 t = 0 ∧ gx_fit K V Q t) := fun q => q.1 hz
        have h9 := ih (t + 1) (by omega) _ o1 (fun p hp hs => hth1 p (by by_cases e : p = t; exact absurd (e ▸ hz) hs; omega) hs)
        rw [gx_set_f (P := (fun p => ¬ V 2 p = 0 ∧ gx_fit K V Q p)) hP] at h9
        refine gs_iincN 2 1 [(0, _), (1, _), (2, _)] dX10_slept_123 rfl (by decide) (by decide) rfl rfl ?_
        refine ga_goto 4 dX10_slept_126 (by decide) ?_
        exact h9
      · have hnz : ¬ V 2 t = 0 := fun q => c_24 (by rw [q]; rfl)
        refine ga_aload_n 0 dX10_slept_27 rfl ?_
        refine ga_iload_n 2 dX10_slept_28 rfl ?_
        refine gd_V1 km_X10_289 kv_X10_layThen (c_X10_layThen hM kw hV vw (by omega)) (sh161 _) rfl rfl (gt_rc0 (by decide)) (Nat.le_of_ble_eq_true rfl) dX10_slept_29 (fun r_29 w_29 q_29 => ?_)
        obtain ⟨rfl, o9, hn29, hq29⟩ := q_29
        have o29 : ∀ b, b ≠ 165 → b ≠ 175 → w_29 b = w b := fun b h1 h2 => (o9 b h1 h2).trans (o1 b h1 h2)
        have hth9 : ∀ p, p < t + 1 → ¬ V 2 p = 0 → gx_thn w_29 p K V 20 := fun p hp hs => by
          by_cases e : p = t
          · rw [e]; exact hn29
          · intro n k h1 h2
            have k0 := kw.1
            rw [hq29 _ (by omega)]
            exact hth1 p (by omega) hs n k h1 h2
        have hQ9 : gx_mn w_29 Q := by unfold gx_mn at hQ ⊢; rw [o29 161 (by decide) (by decide), o29 170 (by decide) (by decide), o29 171 (by decide) (by decide), o29 172 (by decide) (by decide)]; exact hQ
        refine ga_iconst (nI 1) dX10_slept_32 (by decide) ?_
        refine gs_istore_n [(0, _), (1, _), (2, _), (3, _)] dX10_slept_33 (by decide) rfl rfl ?_
        refine ga_iconst (nI 0) dX10_slept_34 (by decide) ?_
        refine gs_istore [(0, _), (1, _), (2, _), (3, _), (4, _)] dX10_slept_35 (by decide) rfl rfl ?_
        have loop2 : ∀ j2 i, i + j2 = Q 0 0 → gt_A l G RX10 "slept" cX10_slept 5 (some .int) (gt_rm 5 0 0) (gt_ZD G n (fun r w' => r = some (.int (gx_set (fun p => ¬ V 2 p = 0 ∧ gx_fit K V Q p) (K 0 2))) ∧ (∀ b, b ≠ 165 → b ≠ 175 → w' b = w b) ∧ ∀ p, p < K 0 2 → ¬ V 2 p = 0 → gx_thn w' p K V 20)) (n, 0, 0) 37 [(0, .ref 161), (1, .int (gx_set (fun p => ¬ V 2 p = 0 ∧ gx_fit K V Q p) t)), (2, .int (nI t)), (3, .int (if gx_ft K V Q t i then nI 1 else nI 0)), (4, .int (nI (3 * i)))] [] (gt_enc w_29) := by
          intro j2
          induction j2 with
          | zero =>
            intro i ht
            have ei : i = Q 0 0 := by omega
            refine ga_iload 4 dX10_slept_37 rfl ?_
            refine ga_iconst (nI 3) dX10_slept_39 (by decide) ?_
            refine ga_aload_n 0 dX10_slept_40 rfl ?_
            refine ga_get kf_X10_75 (sh161 _) (gv hQ9.1.1) dX10_slept_41 ?_
            refine ga_imul dX10_slept_44 ?_
            refine ga_icmp_ge 109 dX10_slept_45 (by decide) (fun c_45 => ?_) (fun c_45 => absurd (by rw [pk_mul]; exact nI_le (by omega) (by omega)) c_45)
            refine ga_iload_n 1 dX10_slept_109 rfl ?_
            refine ga_iload_n 3 dX10_slept_110 rfl ?_
            refine ga_if_eq 120 dX10_slept_111 (by decide) (fun c_111 => ?_) (fun c_111 => ?_)
            · have hP : ¬ (¬ V 2 t = 0 ∧ gx_fit K V Q t) := fun q => gx_if1 c_111 (fun a ha => q.2 a (by omega))
              refine ga_iconst (nI 0) dX10_slept_120 (by decide) ?_
              refine ga_ior dX10_slept_121 ?_
              refine gs_istore_n [(0, _), (1, _), (2, _), (3, _), (4, _)] dX10_slept_122 (by decide) rfl rfl ?_
              refine gs_iincN 2 1 [(0, _), (1, _), (2, _), (3, _), (4, _)] dX10_slept_123 rfl (by decide) (by decide) rfl rfl ?_
              refine ga_goto 4 dX10_slept_126 (by decide) ?_
              refine ga_take 3 ?_
              have h9 := ih (t + 1) (by omega) _ o29 hth9
              first | (rw [gx_set_t (P := (fun p => ¬ V 2 p = 0 ∧ gx_fit K V Q p)) hP] at h9; exact h9) | (rw [gx_set_f (P := (fun p => ¬ V 2 p = 0 ∧ gx_fit K V Q p)) hP] at h9; rw [gx_or0]; exact h9)
            · have hP : ¬ V 2 t = 0 ∧ gx_fit K V Q t := ⟨hnz, fun a ha => gx_if0 c_111 a (by omega)⟩
              refine ga_iconst (nI 1) dX10_slept_114 (by decide) ?_
              refine ga_iload_n 2 dX10_slept_115 rfl ?_
              refine ga_ishl dX10_slept_116 ?_
              refine ga_goto 121 dX10_slept_117 (by decide) ?_
              refine ga_ior dX10_slept_121 ?_
              refine gs_istore_n [(0, _), (1, _), (2, _), (3, _), (4, _)] dX10_slept_122 (by decide) rfl rfl ?_
              refine gs_iincN 2 1 [(0, _), (1, _), (2, _), (3, _), (4, _)] dX10_slept_123 rfl (by decide) (by decide) rfl rfl ?_
              refine ga_goto 4 dX10_slept_126 (by decide) ?_
              refine ga_take 3 ?_
              have h9 := ih (t + 1) (by omega) _ o29 hth9
              first | (rw [gx_set_t (P := (fun p => ¬ V 2 p = 0 ∧ gx_fit K V Q p)) hP] at h9; exact h9) | (rw [gx_set_f (P := (fun p => ¬ V 2 p = 0 ∧ gx_fit K V Q p)) hP] at h9; rw [gx_or0]; exact h9)
          | succ j2 ih2 =>
            intro i ht
            have h9s := hQ9.2.1 i (by omega)
            have hqs := qw.2.1 i (by omega)
            have hth := hn29 (Q 2 i - 1) (Q 1 i) (by omega) hqs.1
            have k0 := kw.1
            rw [show Q 2 i - 1 + 1 = Q 2 i by omega] at hth
            have hsl := gx_sea_le kw (gx_wn_VW (m := gx_sp t) vw (Q 2 i)) (Q 1 i)
            refine ga_iload 4 dX10_slept_37 rfl ?_
            refine ga_iconst (nI 3) dX10_slept_39 (by decide) ?_
            refine ga_aload_n 0 dX10_slept_40 rfl ?_
            refine ga_get kf_X10_75 (sh161 _) (gv hQ9.1.1) dX10_slept_41 ?_
            refine ga_imul dX10_slept_44 ?_
            refine ga_icmp_ge 109 dX10_slept_45 (by decide) (fun c_45 => absurd c_45 (by rw [pk_mul]; exact nI_ge (by omega) (by omega))) (fun c_45 => ?_)
            refine ga_iload_n 3 dX10_slept_48 rfl ?_
            refine ga_if_eq 101 dX10_slept_49 (by decide) (fun c_49 => ?_) (fun c_49 => ?_)
            · have hg : ¬ gx_ft K V Q t (i + 1) := fun q => gx_if1 c_49 (fun a ha => q a (by omega))
              refine ga_iconst (nI 0) dX10_slept_101 (by decide) ?_
              refine gs_istore_n [(0, _), (1, _), (2, _), (3, _), (4, _)] dX10_slept_102 (by decide) rfl rfl ?_
              refine gs_iincN 4 3 [(0, _), (1, _), (2, _), (3, _), (4, _)] dX10_slept_103 rfl (by decide) (by decide) rfl rfl ?_
              refine ga_goto 37 dX10_slept_106 (by decide) ?_
              have h9 := ih2 (i + 1) (by omega)
              first | (rw [if_pos hg] at h9; exact h9) | (rw [if_neg hg] at h9; exact h9)
            · have hg0 := gx_if0 c_49
              refine ga_aload_n 0 dX10_slept_52 rfl ?_
              refine ga_get kf_X10_54 (sh161 _) rfl dX10_slept_53 ?_
              refine ga_sipush (nI 200) dX10_slept_56 (by decide) ?_
              refine ga_iload_n 2 dX10_slept_59 rfl ?_
              refine ga_imul dX10_slept_60 ?_
              refine ga_bipush (nI 10) dX10_slept_61 (by decide) ?_
              refine ga_aload_n 0 dX10_slept_63 rfl ?_
              refine ga_get kf_X10_39 (sh161 _) rfl dX10_slept_64 ?_
              refine ga_iload 4 dX10_slept_67 rfl ?_
              refine ga_iconst (nI 1) dX10_slept_69 (by decide) ?_
              refine ga_iadd dX10_slept_70 ?_
              refine ge_ialdE sh170 (k := 3 * i + 1) (gt_ixe (nI_add (3 * i) 1) (by omega) (by decide)) h9s.2.1 dX10_slept_71 ?_
              refine ga_iconst (nI 1) dX10_slept_72 (by decide) ?_
              refine ga_isub dX10_slept_73 ?_
              refine ga_top (nI (Q 2 i - 1)) (pk_sub hqs.2.1) ?_
              refine ga_imul dX10_slept_74 ?_
              refine ga_iadd dX10_slept_75 ?_
              refine ga_aload_n 0 dX10_slept_76 rfl ?_
              refine ga_get kf_X10_39 (sh161 _) rfl dX10_slept_77 ?_
              refine ga_iload 4 dX10_slept_80 rfl ?_
              refine ge_ialdE sh170 (k := 3 * i) (gt_ixn (by omega)) h9s.1 dX10_slept_82 ?_
              refine ga_iadd dX10_slept_83 ?_
              refine ge_ialdE sh175 (k := 200 * t + 10 * (Q 2 i - 1) + Q 1 i) (gt_ixe (show nI 200 * nI t + nI 10 * nI (Q 2 i - 1) + nI (Q 1 i) = nI (200 * t + 10 * (Q 2 i - 1) + Q 1 i) by rw [pk_mul, pk_mul, nI_add, nI_add]) (by omega) (by decide)) hth dX10_slept_84 ?_
              refine ga_aload_n 0 dX10_slept_85 rfl ?_
              refine ga_get kf_X10_39 (sh161 _) rfl dX10_slept_86 ?_
              refine ga_iload 4 dX10_slept_89 rfl ?_
              refine ga_iconst (nI 2) dX10_slept_91 (by decide) ?_
              refine ga_iadd dX10_slept_92 ?_
              refine ge_ialdE sh170 (k := 3 * i + 2) (gt_ixe (nI_add (3 * i) 2) (by omega) (by decide)) h9s.2.2 dX10_slept_93 ?_
              refine ga_icmp_ne 101 dX10_slept_94 (by decide) (fun c_94 => ?_) (fun c_94 => ?_)
              · have hg : ¬ gx_ft K V Q t (i + 1) := fun q => c_94 (by rw [q i (by omega)])
                refine ga_iconst (nI 0) dX10_slept_101 (by decide) ?_
                refine gs_istore_n [(0, _), (1, _), (2, _), (3, _), (4, _)] dX10_slept_102 (by decide) rfl rfl ?_
                refine gs_iincN 4 3 [(0, _), (1, _), (2, _), (3, _), (4, _)] dX10_slept_103 rfl (by decide) (by decide) rfl rfl ?_
                refine ga_goto 37 dX10_slept_106 (by decide) ?_
                have h9 := ih2 (i + 1) (by omega)
                first | (rw [if_pos hg] at h9; exact h9) | (rw [if_neg hg] at h9; exact h9)
              · have hg : gx_ft K V Q t (i + 1) := gx_ball_t hg0 ((nI_eq (by omega) (by omega)).mp c_94)
                refine ga_iconst (nI 1) dX10_slept_97 (by decide) ?_
                refine ga_goto 102 dX10_slept_98 (by decide) ?_
                refine gs_istore_n [(0, _), (1, _), (2, _), (3, _), (4, _)] dX10_slept_102 (by decide) rfl rfl ?_
                refine gs_iincN 4 3 [(0, _), (1, _), (2, _), (3, _), (4, _)] dX10_slept_103 rfl (by decide) (by decide) rfl rfl ?_
                refine ga_goto 37 dX10_slept_106 (by decide) ?_
                have h9 := ih2 (i + 1) (by omega)
                first | (rw [if_pos hg] at h9; exact h9) | (rw [if_neg hg] at h9; exact h9)
        have h9 := loop2 (Q 0 0) 0 (by omega)
        rw [if_pos (fun a ha => absurd ha (Nat.not_lt_zero a))] at h9
        exact h9
  exact loop (K 0 2) 0 (by omega) _ (fun _ _ _ => rfl) (fun p hp => absurd hp (Nat.not_lt_zero p))
