set_option maxRecDepth 100000 in
set_option maxHeartbeats 4000000 in
theorem c_X6_takeNumber {l : Launch} {G : gt_G} {n : Nat} {w : gt_W} {x : Nat → Nat} {L : Nat} {s : gx_T} (hR : gx_Rd w x L s) (rw9 : gx_RW x L s) {lo hi : Nat} (hlo : lo ≤ 1000) (hhi : hi ≤ 1000) : gt_D l G yX6_takeNumber cX6_takeNumber 5 (some .int) 2 n [.ref 2, .int (nI lo), .int (nI hi)] w (fun r w' => r = some (.int (nI (gx_nv x L s))) ∧ (∀ a, a ≠ 2 → w' a = w a) ∧ gx_Rd w' x L (gx_num x L s lo hi)) := by
  refine gt_D_of (own := RX6) (nm := "takeNumber") rfl rfl (by decide +kernel) (Nat.le_of_ble_eq_true rfl) ?_
  show gt_A _ _ _ _ _ _ _ _ _ _ _ [(0, .ref 2), (1, .int (nI lo)), (2, .int (nI hi))] _ _
  have hL := rw9.1
  have hsk : gx_skip x L s.1 ≤ L := (gx_RW_sk rw9).2.1
  refine ga_aload_n 0 dX6_takeNumber_0 rfl ?_
  refine gd_V0 km_X6_34 kv_X6_moreComes (c_X6_moreComes hR rw9) (sh2 _) rfl rfl (gt_rc0 (by decide)) (Nat.le_of_ble_eq_true rfl) dX6_takeNumber_1 (fun r_1 w_1 q_1 => ?_)
  obtain ⟨rfl, o0, hR⟩ := q_1
  refine ga_pop dX6_takeNumber_4 rfl ?_
  refine ga_aload_n 0 dX6_takeNumber_5 rfl ?_
  refine ga_get kf_X6_23 (sh2 _) (gv hR.1.2.1) dX6_takeNumber_6 ?_
  refine gs_istore_n [(0, _), (1, _), (2, _), (3, _)] dX6_takeNumber_9 (by decide) rfl rfl ?_
  refine ga_iconst (nI 0) dX6_takeNumber_10 (by decide) ?_
  refine gs_istore [(0, _), (1, _), (2, _), (3, _), (4, _)] dX6_takeNumber_11 (by decide) rfl rfl ?_
  have loop : ∀ k i, gx_skip x L s.1 + i + k = L → gx_digs x L (gx_skip x L s.1) = gx_digs x L (gx_skip x L s.1 + i) → (∀ j, j < i → 48 ≤ x (gx_skip x L s.1 + j) ∧ x (gx_skip x L s.1 + j) ≤ 57) → ∀ w1 : gt_W, (∀ b, b ≠ 2 → w1 b = w b) → gx_Rd w1 x L (gx_skip x L s.1 + i, s.2) → gt_A l G RX6 "takeNumber" cX6_takeNumber 5 (some .int) (gt_rm 2 0 0) (gt_ZD G n (fun r w' => r = some (.int (nI (gx_nv x L s))) ∧ (∀ a, a ≠ 2 → w' a = w a) ∧ gx_Rd w' x L (gx_num x L s lo hi))) (n, 0, 0) 13 [(0, .ref 2), (1, .int (nI lo)), (2, .int (nI hi)), (3, .int (nI (gx_skip x L s.1))), (4, .int (nI (gx_vl x (gx_skip x L s.1) i)))] [] (gt_enc w1) := by
    intro k
    induction k with
    | zero =>
      intro i hi9 hdg hfg w1 hF hR
      have hRW : gx_RW x L (gx_skip x L s.1 + i, s.2) := ⟨rw9.1, by show gx_skip x L s.1 + i ≤ L; omega, rw9.2.2⟩
      have hvb := (gx_vl_b (x := x) (f := gx_skip x L s.1) i (fun j hj => (hfg j hj).2)).1
      have hend : gx_digs x L (gx_skip x L s.1) = gx_skip x L s.1 + i := by rw [hdg, show gx_skip x L s.1 + i = L by omega, gx_digs_L]
      refine ga_aload_n 0 dX6_takeNumber_13 rfl ?_
      refine ga_get kf_X6_23 (sh2 _) (gv hR.1.2.1) dX6_takeNumber_14 ?_
      refine ga_aload_n 0 dX6_takeNumber_17 rfl ?_
      refine ga_get kf_X6_19 (sh2 _) (gv hR.1.1) dX6_takeNumber_18 ?_
      refine ga_icmp_ge 82 dX6_takeNumber_21 (by decide) (fun c_21 => ?_) (fun c_21 => absurd (nI_le (by show L ≤ gx_skip x L s.1 + i; omega) (by show gx_skip x L s.1 + i < _; omega)) c_21)
      refine ga_aload_n 0 dX6_takeNumber_82 rfl ?_
      refine ga_get kf_X6_23 (sh2 _) (gv hR.1.2.1) dX6_takeNumber_83 ?_
      refine ga_iload_n 3 dX6_takeNumber_86 rfl ?_
      refine ga_icmp_ne 102 dX6_takeNumber_87 (by decide) (fun c_87 => ?_) (fun c_87 => ?_)
      · have hi0 : 0 < i := Nat.pos_of_ne_zero (fun q => c_87 (by rw [q, Nat.add_zero]))
        refine ga_aload_n 0 dX6_takeNumber_102 rfl ?_
        refine ga_get kf_X6_23 (sh2 _) (gv hR.1.2.1) dX6_takeNumber_103 ?_
        refine ga_iload_n 3 dX6_takeNumber_106 rfl ?_
        refine ga_isub dX6_takeNumber_107 ?_
        refine ga_top (nI i) (by rw [pk_sub (by omega), Nat.add_sub_cancel_left]) ?_
        refine ga_iconst (nI 3) dX6_takeNumber_108 (by decide) ?_
        refine ga_icmp_gt 124 dX6_takeNumber_109 (by decide) (fun c_109 => ?_) (fun c_109 => ?_)
        · have h109 : 3 < i := Decidable.byContradiction fun q => absurd c_109 (nI_nlt (by omega) (by omega))
          refine ga_aload_n 0 dX6_takeNumber_124 rfl ?_
          refine ga_iconst (nI 2) dX6_takeNumber_125 (by decide) ?_
          refine ga_iload_n 3 dX6_takeNumber_126 rfl ?_
          refine gd_V2 km_X6_63 kv_X6_fail (c_X6_fail hR hRW) (sh2 _) rfl rfl (gt_rc0 (by decide)) (Nat.le_of_ble_eq_true rfl) dX6_takeNumber_127 (fun r_127 w_127 q_127 => ?_)
          obtain ⟨rfl, o127, hR127⟩ := q_127
          refine ga_iload 4 dX6_takeNumber_130 rfl ?_
          have env : gx_nv x L s = gx_vl x (gx_skip x L s.1) i := by unfold gx_nv; rw [show gx_ne x L s = gx_skip x L s.1 + i from hend, Nat.add_sub_cancel_left]
          refine gd_iret dX6_takeNumber_132 ⟨gv (by rw [env]), ?_, ?_⟩
          · first | exact fun a ha => by rw [o96 a ha]; exact hF a ha | exact fun a ha => by rw [o127 a ha]; exact hF a ha | exact hF
          · unfold gx_num
            rw [show gx_ne x L s = gx_skip x L s.1 + i from hend]
            first
            | (rw [if_pos (by omega)]; rw [show gx_skip x L s.1 + i = gx_skip x L s.1 by omega] at hR96 ⊢; exact hR96)
            | (rw [if_neg (by omega), if_pos (by rw [env]; omega)]; exact hR127)
            | (rw [if_neg (by omega), if_neg (by rw [env]; omega)]; exact hR)
        · have h109 : ¬ 3 < i := fun q => c_109 (nI_lt q (by omega))
          refine ga_iload 4 dX6_takeNumber_112 rfl ?_
          refine ga_iload_n 1 dX6_takeNumber_114 rfl ?_
          refine ga_icmp_lt 124 dX6_takeNumber_115 (by decide) (fun c_115 => ?_) (fun c_115 => ?_)
          · have h115 : gx_vl x (gx_skip x L s.1) i < lo := Decidable.byContradiction fun q => absurd c_115 (nI_nlt (by omega) (by omega))
            refine ga_aload_n 0 dX6_takeNumber_124 rfl ?_
            refine ga_iconst (nI 2) dX6_takeNumber_125 (by decide) ?_
            refine ga_iload_n 3 dX6_takeNumber_126 rfl ?_
            refine gd_V2 km_X6_63 kv_X6_fail (c_X6_fail hR hRW) (sh2 _) rfl rfl (gt_rc0 (by decide)) (Nat.le_of_ble_eq_true rfl) dX6_takeNumber_127 (fun r_127 w_127 q_127 => ?_)
            obtain ⟨rfl, o127, hR127⟩ := q_127
            refine ga_iload 4 dX6_takeNumber_130 rfl ?_
            have env : gx_nv x L s = gx_vl x (gx_skip x L s.1) i := by unfold gx_nv; rw [show gx_ne x L s = gx_skip x L s.1 + i from hend, Nat.add_sub_cancel_left]
            refine gd_iret dX6_takeNumber_132 ⟨gv (by rw [env]), ?_, ?_⟩
            · first | exact fun a ha => by rw [o96 a ha]; exact hF a ha | exact fun a ha => by rw [o127 a ha]; exact hF a ha | exact hF
            · unfold gx_num
              rw [show gx_ne x L s = gx_skip x L s.1 + i from hend]
              first
              | (rw [if_pos (by omega)]; rw [show gx_skip x L s.1 + i = gx_skip x L s.1 by omega] at hR96 ⊢; exact hR96)
              | (rw [if_neg (by omega), if_pos (by rw [env]; omega)]; exact hR127)
              | (rw [if_neg (by omega), if_neg (by rw [env]; omega)]; exact hR)
          · have h115 : ¬ gx_vl x (gx_skip x L s.1) i < lo := fun q => c_115 (nI_lt q (by omega))
            refine ga_iload 4 dX6_takeNumber_118 rfl ?_
            refine ga_iload_n 2 dX6_takeNumber_120 rfl ?_
            refine ga_icmp_le 130 dX6_takeNumber_121 (by decide) (fun c_121 => ?_) (fun c_121 => ?_)
            · have h121 : gx_vl x (gx_skip x L s.1) i ≤ hi := (nI_leI (by omega) (by omega)).mp c_121
              refine ga_iload 4 dX6_takeNumber_130 rfl ?_
              have env : gx_nv x L s = gx_vl x (gx_skip x L s.1) i := by unfold gx_nv; rw [show gx_ne x L s = gx_skip x L s.1 + i from hend, Nat.add_sub_cancel_left]
              refine gd_iret dX6_takeNumber_132 ⟨gv (by rw [env]), ?_, ?_⟩
              · first | exact fun a ha => by rw [o96 a ha]; exact hF a ha | exact fun a ha => by rw [o127 a ha]; exact hF a ha | exact hF
              · unfold gx_num
                rw [show gx_ne x L s = gx_skip x L s.1 + i from hend]
                first
                | (rw [if_pos (by omega)]; rw [show gx_skip x L s.1 + i = gx_skip x L s.1 by omega] at hR96 ⊢; exact hR96)
                | (rw [if_neg (by omega), if_pos (by rw [env]; omega)]; exact hR127)
                | (rw [if_neg (by omega), if_neg (by rw [env]; omega)]; exact hR)
            · have h121 : ¬ gx_vl x (gx_skip x L s.1) i ≤ hi := fun q => c_121 (nI_le q (by omega))
              refine ga_aload_n 0 dX6_takeNumber_124 rfl ?_
              refine ga_iconst (nI 2) dX6_takeNumber_125 (by decide) ?_
              refine ga_iload_n 3 dX6_takeNumber_126 rfl ?_
              refine gd_V2 km_X6_63 kv_X6_fail (c_X6_fail hR hRW) (sh2 _) rfl rfl (gt_rc0 (by decide)) (Nat.le_of_ble_eq_true rfl) dX6_takeNumber_127 (fun r_127 w_127 q_127 => ?_)
              obtain ⟨rfl, o127, hR127⟩ := q_127
              refine ga_iload 4 dX6_takeNumber_130 rfl ?_
              have env : gx_nv x L s = gx_vl x (gx_skip x L s.1) i := by unfold gx_nv; rw [show gx_ne x L s = gx_skip x L s.1 + i from hend, Nat.add_sub_cancel_left]
              refine gd_iret dX6_takeNumber_132 ⟨gv (by rw [env]), ?_, ?_⟩
              · first | exact fun a ha => by rw [o96 a ha]; exact hF a ha | exact fun a ha => by rw [o127 a ha]; exact hF a ha | exact hF
              · unfold gx_num
                rw [show gx_ne x L s = gx_skip x L s.1 + i from hend]
                first
                | (rw [if_pos (by omega)]; rw [show gx_skip x L s.1 + i = gx_skip x L s.1 by omega] at hR96 ⊢; exact hR96)
                | (rw [if_neg (by omega), if_pos (by rw [env]; omega)]; exact hR127)
                | (rw [if_neg (by omega), if_neg (by rw [env]; omega)]; exact hR)
      · have hi0 : i = 0 := by have h7 := (nI_eq (a := gx_skip x L s.1 + i) (b := gx_skip x L s.1) (by omega) (by omega)).mp c_87; omega
        refine ga_aload_n 0 dX6_takeNumber_90 rfl ?_
        refine ga_iconst (nI 1) dX6_takeNumber_91 (by decide) ?_
        refine ga_aload_n 0 dX6_takeNumber_92 rfl ?_
        refine ga_get kf_X6_23 (sh2 _) (gv hR.1.2.1) dX6_takeNumber_93 ?_
        refine gd_V2 km_X6_63 kv_X6_fail (c_X6_fail hR hRW) (sh2 _) rfl rfl (gt_rc0 (by decide)) (Nat.le_of_ble_eq_true rfl) dX6_takeNumber_96 (fun r_96 w_96 q_96 => ?_)
        obtain ⟨rfl, o96, hR96⟩ := q_96
        refine ga_goto 130 dX6_takeNumber_99 (by decide) ?_
        refine ga_iload 4 dX6_takeNumber_130 rfl ?_
        have env : gx_nv x L s = gx_vl x (gx_skip x L s.1) i := by unfold gx_nv; rw [show gx_ne x L s = gx_skip x L s.1 + i from hend, Nat.add_sub_cancel_left]
        refine gd_iret dX6_takeNumber_132 ⟨gv (by rw [env]), ?_, ?_⟩
        · first | exact fun a ha => by rw [o96 a ha]; exact hF a ha | exact fun a ha => by rw [o127 a ha]; exact hF a ha | exact hF
        · unfold gx_num
          rw [show gx_ne x L s = gx_skip x L s.1 + i from hend]
          first
          | (rw [if_pos (by omega)]; rw [show gx_skip x L s.1 + i = gx_skip x L s.1 by omega] at hR96 ⊢; exact hR96)
          | (rw [if_neg (by omega), if_pos (by rw [env]; omega)]; exact hR127)
          | (rw [if_neg (by omega), if_neg (by rw [env]; omega)]; exact hR)
    | succ k ih =>
      intro i hi9 hdg hfg w1 hF hR
      have hRW : gx_RW x L (gx_skip x L s.1 + i, s.2) := ⟨rw9.1, by show gx_skip x L s.1 + i ≤ L; omega, rw9.2.2⟩
      have hvb := (gx_vl_b (x := x) (f := gx_skip x L s.1) i (fun j hj => (hfg j hj).2))
      have hvb2 := hvb.2.1
      have hvb := hvb.1
      have hx9 := rw9.2.2.2.2 (gx_skip x L s.1 + i) (by omega)
      refine ga_aload_n 0 dX6_takeNumber_13 rfl ?_
      refine ga_get kf_X6_23 (sh2 _) (gv hR.1.2.1) dX6_takeNumber_14 ?_
      refine ga_aload_n 0 dX6_takeNumber_17 rfl ?_
      refine ga_get kf_X6_19 (sh2 _) (gv hR.1.1) dX6_takeNumber_18 ?_
      refine ga_icmp_ge 82 dX6_takeNumber_21 (by decide) (fun c_21 => absurd c_21 (nI_ge (by show gx_skip x L s.1 + i < L; omega) (by omega))) (fun c_21 => ?_)
      refine ga_aload_n 0 dX6_takeNumber_24 rfl ?_
      refine ga_get kf_X6_9 (sh2 _) rfl dX6_takeNumber_25 ?_
      refine ga_aload_n 0 dX6_takeNumber_28 rfl ?_
      refine ga_get kf_X6_23 (sh2 _) (gv hR.1.2.1) dX6_takeNumber_29 ?_
      refine ge_ialdE (sh3) (gt_ixn (by show gx_skip x L s.1 + i < 240; omega)) (v := nI (x (gx_skip x L s.1 + i))) (hR.2 _ (by omega)) dX6_takeNumber_32 ?_
      refine ga_S1 km_X6_103 kv_X6_isFigure (c_X6_isFigure hx9) (gt_rc0 (by decide)) (Nat.le_of_ble_eq_true rfl) dX6_takeNumber_33 ?_
      refine ga_if_eq 82 dX6_takeNumber_36 (by decide) (fun c_36 => ?_) (fun c_36 => ?_)
      · have hnf : ¬ (48 ≤ x (gx_skip x L s.1 + i) ∧ x (gx_skip x L s.1 + i) ≤ 57) := fun q => absurd c_36 (by rw [if_pos q]; decide)
        have hend : gx_digs x L (gx_skip x L s.1) = gx_skip x L s.1 + i := by rw [hdg, gx_digs_lt (by omega), if_neg hnf]
        refine ga_aload_n 0 dX6_takeNumber_82 rfl ?_
        refine ga_get kf_X6_23 (sh2 _) (gv hR.1.2.1) dX6_takeNumber_83 ?_
        refine ga_iload_n 3 dX6_takeNumber_86 rfl ?_
        refine ga_icmp_ne 102 dX6_takeNumber_87 (by decide) (fun c_87 => ?_) (fun c_87 => ?_)
        · have hi0 : 0 < i := Nat.pos_of_ne_zero (fun q => c_87 (by rw [q, Nat.add_zero]))
          refine ga_aload_n 0 dX6_takeNumber_102 rfl ?_
          refine ga_get kf_X6_23 (sh2 _) (gv hR.1.2.1) dX6_takeNumber_103 ?_
          refine ga_iload_n 3 dX6_takeNumber_106 rfl ?_
          refine ga_isub dX6_takeNumber_107 ?_
          refine ga_top (nI i) (by rw [pk_sub (by omega), Nat.add_sub_cancel_left]) ?_
          refine ga_iconst (nI 3) dX6_takeNumber_108 (by decide) ?_
          refine ga_icmp_gt 124 dX6_takeNumber_109 (by decide) (fun c_109 => ?_) (fun c_109 => ?_)
          · have h109 : 3 < i := Decidable.byContradiction fun q => absurd c_109 (nI_nlt (by omega) (by omega))
            refine ga_aload_n 0 dX6_takeNumber_124 rfl ?_
            refine ga_iconst (nI 2) dX6_takeNumber_125 (by decide) ?_
            refine ga_iload_n 3 dX6_takeNumber_126 rfl ?_
            refine gd_V2 km_X6_63 kv_X6_fail (c_X6_fail hR hRW) (sh2 _) rfl rfl (gt_rc0 (by decide)) (Nat.le_of_ble_eq_true rfl) dX6_takeNumber_127 (fun r_127 w_127 q_127 => ?_)
            obtain ⟨rfl, o127, hR127⟩ := q_127
            refine ga_iload 4 dX6_takeNumber_130 rfl ?_
            have env : gx_nv x L s = gx_vl x (gx_skip x L s.1) i := by unfold gx_nv; rw [show gx_ne x L s = gx_skip x L s.1 + i from hend, Nat.add_sub_cancel_left]
            refine gd_iret dX6_takeNumber_132 ⟨gv (by rw [env]), ?_, ?_⟩
            · first | exact fun a ha => by rw [o96 a ha]; exact hF a ha | exact fun a ha => by rw [o127 a ha]; exact hF a ha | exact hF
            · unfold gx_num
              rw [show gx_ne x L s = gx_skip x L s.1 + i from hend]
              first
              | (rw [if_pos (by omega)]; rw [show gx_skip x L s.1 + i = gx_skip x L s.1 by omega] at hR96 ⊢; exact hR96)
              | (rw [if_neg (by omega), if_pos (by rw [env]; omega)]; exact hR127)
              | (rw [if_neg (by omega), if_neg (by rw [env]; omega)]; exact hR)
          · have h109 : ¬ 3 < i := fun q => c_109 (nI_lt q (by omega))
            refine ga_iload 4 dX6_takeNumber_112 rfl ?_
            refine ga_iload_n 1 dX6_takeNumber_114 rfl ?_
            refine ga_icmp_lt 124 dX6_takeNumber_115 (by decide) (fun c_115 => ?_) (fun c_115 => ?_)
            · have h115 : gx_vl x (gx_skip x L s.1) i < lo := Decidable.byContradiction fun q => absurd c_115 (nI_nlt (by omega) (by omega))
              refine ga_aload_n 0 dX6_takeNumber_124 rfl ?_
              refine ga_iconst (nI 2) dX6_takeNumber_125 (by decide) ?_
              refine ga_iload_n 3 dX6_takeNumber_126 rfl ?_
              refine gd_V2 km_X6_63 kv_X6_fail (c_X6_fail hR hRW) (sh2 _) rfl rfl (gt_rc0 (by decide)) (Nat.le_of_ble_eq_true rfl) dX6_takeNumber_127 (fun r_127 w_127 q_127 => ?_)
              obtain ⟨rfl, o127, hR127⟩ := q_127
              refine ga_iload 4 dX6_takeNumber_130 rfl ?_
              have env : gx_nv x L s = gx_vl x (gx_skip x L s.1) i := by unfold gx_nv; rw [show gx_ne x L s = gx_skip x L s.1 + i from hend, Nat.add_sub_cancel_left]
              refine gd_iret dX6_takeNumber_132 ⟨gv (by rw [env]), ?_, ?_⟩
              · first | exact fun a ha => by rw [o96 a ha]; exact hF a ha | exact fun a ha => by rw [o127 a ha]; exact hF a ha | exact hF
              · unfold gx_num
                rw [show gx_ne x L s = gx_skip x L s.1 + i from hend]
                first
                | (rw [if_pos (by omega)]; rw [show gx_skip x L s.1 + i = gx_skip x L s.1 by omega] at hR96 ⊢; exact hR96)
                | (rw [if_neg (by omega), if_pos (by rw [env]; omega)]; exact hR127)
                | (rw [if_neg (by omega), if_neg (by rw [env]; omega)]; exact hR)
            · have h115 : ¬ gx_vl x (gx_skip x L s.1) i < lo := fun q => c_115 (nI_lt q (by omega))
              refine ga_iload 4 dX6_takeNumber_118 rfl ?_
              refine ga_iload_n 2 dX6_takeNumber_120 rfl ?_
              refine ga_icmp_le 130 dX6_takeNumber_121 (by decide) (fun c_121 => ?_) (fun c_121 => ?_)
              · have h121 : gx_vl x (gx_skip x L s.1) i ≤ hi := (nI_leI (by omega) (by omega)).mp c_121
                refine ga_iload 4 dX6_takeNumber_130 rfl ?_
                have env : gx_nv x L s = gx_vl x (gx_skip x L s.1) i := by unfold gx_nv; rw [show gx_ne x L s = gx_skip x L s.1 + i from hend, Nat.add_sub_cancel_left]
                refine gd_iret dX6_takeNumber_132 ⟨gv (by rw [env]), ?_, ?_⟩
                · first | exact fun a ha => by rw [o96 a ha]; exact hF a ha | exact fun a ha => by rw [o127 a ha]; exact hF a ha | exact hF
                · unfold gx_num
                  rw [show gx_ne x L s = gx_skip x L s.1 + i from hend]
                  first
                  | (rw [if_pos (by omega)]; rw [show gx_skip x L s.1 + i = gx_skip x L s.1 by omega] at hR96 ⊢; exact hR96)
                  | (rw [if_neg (by omega), if_pos (by rw [env]; omega)]; exact hR127)
                  | (rw [if_neg (by omega), if_neg (by rw [env]; omega)]; exact hR)
              · have h121 : ¬ gx_vl x (gx_skip x L s.1) i ≤ hi := fun q => c_121 (nI_le q (by omega))
                refine ga_aload_n 0 dX6_takeNumber_124 rfl ?_
                refine ga_iconst (nI 2) dX6_takeNumber_125 (by decide) ?_
                refine ga_iload_n 3 dX6_takeNumber_126 rfl ?_
                refine gd_V2 km_X6_63 kv_X6_fail (c_X6_fail hR hRW) (sh2 _) rfl rfl (gt_rc0 (by decide)) (Nat.le_of_ble_eq_true rfl) dX6_takeNumber_127 (fun r_127 w_127 q_127 => ?_)
                obtain ⟨rfl, o127, hR127⟩ := q_127
                refine ga_iload 4 dX6_takeNumber_130 rfl ?_
                have env : gx_nv x L s = gx_vl x (gx_skip x L s.1) i := by unfold gx_nv; rw [show gx_ne x L s = gx_skip x L s.1 + i from hend, Nat.add_sub_cancel_left]
                refine gd_iret dX6_takeNumber_132 ⟨gv (by rw [env]), ?_, ?_⟩
                · first | exact fun a ha => by rw [o96 a ha]; exact hF a ha | exact fun a ha => by rw [o127 a ha]; exact hF a ha | exact hF
                · unfold gx_num
                  rw [show gx_ne x L s = gx_skip x L s.1 + i from hend]
                  first
                  | (rw [if_pos (by omega)]; rw [show gx_skip x L s.1 + i = gx_skip x L s.1 by omega] at hR96 ⊢; exact hR96)
                  | (rw [if_neg (by omega), if_pos (by rw [env]; omega)]; exact hR127)
                  | (rw [if_neg (by omega), if_neg (by rw [env]; omega)]; exact hR)
        · have hi0 : i = 0 := by have h7 := (nI_eq (a := gx_skip x L s.1 + i) (b := gx_skip x L s.1) (by omega) (by omega)).mp c_87; omega
          refine ga_aload_n 0 dX6_takeNumber_90 rfl ?_
          refine ga_iconst (nI 1) dX6_takeNumber_91 (by decide) ?_
          refine ga_aload_n 0 dX6_takeNumber_92 rfl ?_
          refine ga_get kf_X6_23 (sh2 _) (gv hR.1.2.1) dX6_takeNumber_93 ?_
          refine gd_V2 km_X6_63 kv_X6_fail (c_X6_fail hR hRW) (sh2 _) rfl rfl (gt_rc0 (by decide)) (Nat.le_of_ble_eq_true rfl) dX6_takeNumber_96 (fun r_96 w_96 q_96 => ?_)
          obtain ⟨rfl, o96, hR96⟩ := q_96
          refine ga_goto 130 dX6_takeNumber_99 (by decide) ?_
          refine ga_iload 4 dX6_takeNumber_130 rfl ?_
          have env : gx_nv x L s = gx_vl x (gx_skip x L s.1) i := by unfold gx_nv; rw [show gx_ne x L s = gx_skip x L s.1 + i from hend, Nat.add_sub_cancel_left]
          refine gd_iret dX6_takeNumber_132 ⟨gv (by rw [env]), ?_, ?_⟩
          · first | exact fun a ha => by rw [o96 a ha]; exact hF a ha | exact fun a ha => by rw [o127 a ha]; exact hF a ha | exact hF
          · unfold gx_num
            rw [show gx_ne x L s = gx_skip x L s.1 + i from hend]
            first
            | (rw [if_pos (by omega)]; rw [show gx_skip x L s.1 + i = gx_skip x L s.1 by omega] at hR96 ⊢; exact hR96)
            | (rw [if_neg (by omega), if_pos (by rw [env]; omega)]; exact hR127)
            | (rw [if_neg (by omega), if_neg (by rw [env]; omega)]; exact hR)
      · have hyf : 48 ≤ x (gx_skip x L s.1 + i) ∧ x (gx_skip x L s.1 + i) ≤ 57 := Decidable.byContradiction fun q => c_36 (by rw [if_neg q]; decide)
        refine ga_aload_n 0 dX6_takeNumber_39 rfl ?_
        refine ga_get kf_X6_23 (sh2 _) (gv hR.1.2.1) dX6_takeNumber_40 ?_
        refine ga_iload_n 3 dX6_takeNumber_43 rfl ?_
        refine ga_isub dX6_takeNumber_44 ?_
        refine ga_top (nI i) (by rw [pk_sub (by omega), Nat.add_sub_cancel_left]) ?_
        refine ga_iconst (nI 3) dX6_takeNumber_45 (by decide) ?_
        refine ga_icmp_ge 69 dX6_takeNumber_46 (by decide) (fun c_46 => ?_) (fun c_46 => ?_)
        · have h46 : ¬ i < 3 := fun q => absurd c_46 (nI_ge q (by omega))
          refine ga_aload_n 0 dX6_takeNumber_69 rfl ?_
          refine ga_dup dX6_takeNumber_70 rfl ?_
          refine ga_get kf_X6_23 (sh2 _) (gv hR.1.2.1) dX6_takeNumber_71 ?_
          refine ga_iconst (nI 1) dX6_takeNumber_74 (by decide) ?_
          refine ga_iadd dX6_takeNumber_75 ?_
          refine ga_top (nI (gx_skip x L s.1 + (i + 1))) (nI_add _ 1) ?_
          refine gw_put 2 kp_X6_23 (sh2 _) (sh2 _) rfl rfl (Nat.le_of_ble_eq_true rfl) dX6_takeNumber_76 (fun w_76 o_76 e_76 => ?_)
          refine ga_goto 13 dX6_takeNumber_79 (by decide) ?_
          have h9 := ih (i + 1) (by omega) (by rw [hdg, gx_digs_lt (by omega), if_pos hyf]; rfl) (fun j hj => by
              by_cases e : j = i
              · rw [e]; exact hyf
              · exact hfg j (by omega)) _ (fun b hb => by rw [o_76 b hb]; exact hF b hb) (gx_Rd_at o_76 e_76 hR)
          first | (rw [show gx_vl x (gx_skip x L s.1) (i + 1) = gx_vl x (gx_skip x L s.1) i from if_neg h46] at h9; exact h9) | (rw [show gx_vl x (gx_skip x L s.1) (i + 1) = gx_vl x (gx_skip x L s.1) i * 10 + x (gx_skip x L s.1 + i) - 48 from if_pos h46] at h9; exact h9)
        · have h46 : i < 3 := Decidable.byContradiction fun q => c_46 (nI_le (by omega) (by omega))
          refine ga_iload 4 dX6_takeNumber_49 rfl ?_
          refine ga_bipush (nI 10) dX6_takeNumber_51 (by decide) ?_
          refine ga_imul dX6_takeNumber_53 ?_
          refine ga_aload_n 0 dX6_takeNumber_54 rfl ?_
          refine ga_get kf_X6_9 (sh2 _) rfl dX6_takeNumber_55 ?_
          refine ga_aload_n 0 dX6_takeNumber_58 rfl ?_
          refine ga_get kf_X6_23 (sh2 _) (gv hR.1.2.1) dX6_takeNumber_59 ?_
          refine ge_ialdE (sh3) (gt_ixn (by show gx_skip x L s.1 + i < 240; omega)) (v := nI (x (gx_skip x L s.1 + i))) (hR.2 _ (by omega)) dX6_takeNumber_62 ?_
          refine ga_iadd dX6_takeNumber_63 ?_
          refine ga_bipush (nI 48) dX6_takeNumber_64 (by decide) ?_
          refine ga_isub dX6_takeNumber_66 ?_
          refine ga_top (nI (gx_vl x (gx_skip x L s.1) i * 10 + x (gx_skip x L s.1 + i) - 48)) (by rw [pk_mul, nI_add, pk_sub (by omega)]) ?_
          refine gs_istore [(0, _), (1, _), (2, _), (3, _), (4, _)] dX6_takeNumber_67 (by decide) rfl rfl ?_
          refine ga_aload_n 0 dX6_takeNumber_69 rfl ?_
          refine ga_dup dX6_takeNumber_70 rfl ?_
          refine ga_get kf_X6_23 (sh2 _) (gv hR.1.2.1) dX6_takeNumber_71 ?_
          refine ga_iconst (nI 1) dX6_takeNumber_74 (by decide) ?_
          refine ga_iadd dX6_takeNumber_75 ?_
          refine ga_top (nI (gx_skip x L s.1 + (i + 1))) (nI_add _ 1) ?_
          refine gw_put 2 kp_X6_23 (sh2 _) (sh2 _) rfl rfl (Nat.le_of_ble_eq_true rfl) dX6_takeNumber_76 (fun w_76 o_76 e_76 => ?_)
          refine ga_goto 13 dX6_takeNumber_79 (by decide) ?_
          have h9 := ih (i + 1) (by omega) (by rw [hdg, gx_digs_lt (by omega), if_pos hyf]; rfl) (fun j hj => by
              by_cases e : j = i
              · rw [e]; exact hyf
              · exact hfg j (by omega)) _ (fun b hb => by rw [o_76 b hb]; exact hF b hb) (gx_Rd_at o_76 e_76 hR)
          first | (rw [show gx_vl x (gx_skip x L s.1) (i + 1) = gx_vl x (gx_skip x L s.1) i from if_neg h46] at h9; exact h9) | (rw [show gx_vl x (gx_skip x L s.1) (i + 1) = gx_vl x (gx_skip x L s.1) i * 10 + x (gx_skip x L s.1 + i) - 48 from if_pos h46] at h9; exact h9)
  exact loop (L - gx_skip x L s.1) 0 (by omega) rfl (fun j hj => by omega) _ o0 hR
