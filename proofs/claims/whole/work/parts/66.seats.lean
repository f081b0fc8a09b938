/-! SEATS -/
def gx_bst (K V : gx_K) (m : Int32) (k d n : Nat) : gx_Rg := gx_mf (gx_g K V m k n) (K 4) (K 0 2) (K 0 1) (gx_nA K k d) (gx_nB K V k d n) (K 0 2) (fun _ => 0) (100000000, 100000000, fun _ => 0)
def aSeats (K V : gx_K) (m a d n p : Int32) : Int32 := if gx_in a (nI (K 0 0)) = 0 ∨ (¬ p = -1 ∧ gx_in p (nI (K 0 2)) = 0) then gUNK else if gx_wi d (nI 0) (nI 99) = 0 ∨ gx_wi n (nI 1) (nI 20) = 0 then gOUT else if (gx_bst K V m a.toNatClampNeg d.toNatClampNeg n.toNatClampNeg).1 = 100000000 then -1 else if p = -1 then nI (gx_bst K V m a.toNatClampNeg d.toNatClampNeg n.toNatClampNeg).1 else gx_seat ((gx_bst K V m a.toNatClampNeg d.toNatClampNeg n.toNatClampNeg).2.2 p.toNatClampNeg)
theorem gx_nm1 {v : Nat} (h : v < 1000000) : ¬ nI v = -1 := fun q => by
  have := (gx_seat_m1 (v := v + 1) (by omega)).mp (by rw [gx_seat_s]; exact q)
  omega
set_option maxRecDepth 100000 in
set_option maxHeartbeats 4000000 in
theorem c_X10_seats {l : Launch} {G : gt_G} {n : Nat} {w : gt_W} {K V : gx_K} {m : Int32} {hs : Nat → gx_K × Int32} {cnt : Nat} {im : Nat → Nat × (gx_K × Int32) × Nat} {sd : Nat} {x : Nat → Nat} {L fp : Nat} {Q : gx_K} (hX : gx_M w K V m hs cnt im sd x L fp Q) (hW : gx_WF K V m hs cnt im sd x L fp Q) (a9 d9 n9 p9 : Int32) : gt_D l G yX10_seats cX10_seats 5 (some .int) 7 n [.ref 161, .int a9, .int d9, .int n9, .int p9] w (fun r w' => r = some (.int (aSeats K V m a9 d9 n9 p9)) ∧ gx_M w' K V m hs cnt im sd x L fp Q ∧ ∀ a, a < 161 → w' a = w a) := by
  obtain ⟨hM, hV, hpast, him, hsd, htx, hfp, hQ⟩ := id hX
  obtain ⟨kw, vw, vd, hhr, hcnt, hhs, him2, hsd2, hxL, hfp2, qw⟩ := id hW
  have k2 := kw.2.2.1
  refine gt_D_of (own := RX10) (nm := "seats") rfl rfl (by decide +kernel) (Nat.le_of_ble_eq_true rfl) ?_
  show gt_A _ _ _ _ _ _ _ _ _ _ _ [(0, .ref 161), (1, .int a9), (2, .int d9), (3, .int n9), (4, .int p9)] _ _
  refine ga_aload_n 0 dX10_seats_0 rfl ?_
  refine ga_iload_n 1 dX10_seats_1 rfl ?_
  refine ga_V1 km_X10_188 kv_X10_isCell (c_X10_isCell hM kw a9) (sh161 _) rfl rfl (gt_rc0 (by decide)) (Nat.le_of_ble_eq_true rfl) dX10_seats_2 ?_
  refine ga_if_eq 23 dX10_seats_5 (by decide) (fun c_5 => ?_) (fun c_5 => ?_)
  · have hun : gx_in a9 (nI (K 0 0)) = 0 ∨ (¬ p9 = -1 ∧ gx_in p9 (nI (K 0 2)) = 0) := Or.inl c_5
    refine ga_ldc kc_X10_191 dX10_seats_23 ?_
    exact gd_iret dX10_seats_25 ⟨gv (by unfold aSeats; rw [if_pos hun]), hX, fun _ _ => rfl⟩
  · obtain ⟨k, hk, rfl⟩ := gx_in_of (by have := kw.1; have := kw.2.1; have := kw.2.2.1; have := kw.2.2.2.1; omega) c_5
    have ek : (nI k).toNatClampNeg = k := nI_clamp (by have := kw.1; have := kw.2.1; have := kw.2.2.1; have := kw.2.2.2.1; omega)
    refine ga_iload 4 dX10_seats_8 rfl ?_
    refine ga_iconst ((-1)) dX10_seats_10 (by decide) ?_
    refine ga_icmp_eq 26 dX10_seats_11 (by decide) (fun c_11 => ?_) (fun c_11 => ?_)
    · have hnu : ¬ (gx_in (nI k) (nI (K 0 0)) = 0 ∨ (¬ p9 = -1 ∧ gx_in p9 (nI (K 0 2)) = 0)) := fun q => q.elim c_5 (fun q => q.1 c_11)
      refine ga_iload_n 2 dX10_seats_26 rfl ?_
      refine ga_i2l dX10_seats_27 ?_
      refine ga_lconst 0 dX10_seats_28 (by decide) ?_
      refine ga_ldc2_w kc_X10_235 dX10_seats_29 ?_
      refine ga_S3 km_X10_64 kv_X10_in (c_X10_in (x := d9) (a := nI 0) (b := nI 99) rfl (by decide) (by decide)) (gt_rc0 (by decide)) (Nat.le_of_ble_eq_true rfl) dX10_seats_32 ?_
      refine ga_if_eq 50 dX10_seats_35 (by decide) (fun c_35 => ?_) (fun c_35 => ?_)
      · have hno : gx_wi d9 (nI 0) (nI 99) = 0 ∨ gx_wi n9 (nI 1) (nI 20) = 0 := Or.inl c_35
        refine ga_ldc kc_X10_86 dX10_seats_50 ?_
        exact gd_iret dX10_seats_52 ⟨gv (by unfold aSeats; rw [if_neg hnu, if_pos hno]), hX, fun _ _ => rfl⟩
      · obtain ⟨D, hDl, hD, rfl⟩ := gx_wi_of (by decide) (by decide) c_35
        have eD : (nI D).toNatClampNeg = D := nI_clamp (by omega)
        refine ga_iload_n 3 dX10_seats_38 rfl ?_
        refine ga_i2l dX10_seats_39 ?_
        refine ga_lconst 1 dX10_seats_40 (by decide) ?_
        refine ga_ldc2_w kc_X10_277 dX10_seats_41 ?_
        refine ga_S3 km_X10_64 kv_X10_in (c_X10_in (x := n9) (a := nI 1) (b := nI 20) rfl (by decide) (by decide)) (gt_rc0 (by decide)) (Nat.le_of_ble_eq_true rfl) dX10_seats_44 ?_
        refine ga_if_ne 53 dX10_seats_47 (by decide) (fun c_47 => ?_) (fun c_47 => ?_)
        · obtain ⟨N, hNl, hN, rfl⟩ := gx_wi_of (by decide) (by decide) c_47
          have eN : (nI N).toNatClampNeg = N := nI_clamp (by omega)
          have hyes : ¬ (gx_wi (nI D) (nI 0) (nI 99) = 0 ∨ gx_wi (nI N) (nI 1) (nI 20) = 0) := fun q => q.elim c_35 c_47
          refine ga_aload_n 0 dX10_seats_53 rfl ?_
          refine ga_iload_n 1 dX10_seats_54 rfl ?_
          refine ga_iload_n 2 dX10_seats_55 rfl ?_
          refine ga_iload_n 3 dX10_seats_56 rfl ?_
          refine gd_V3 km_X10_279 kv_X10_plans (c_X10_plans hM kw hV vw hk hD hN) (sh161 _) rfl rfl (gt_rc0 (by decide)) (Nat.le_of_ble_eq_true rfl) dX10_seats_57 (fun r_57 w_57 q_57 => ?_)
          obtain ⟨rfl, hF, hb1, hb2, hb3, hb4, hb5⟩ := q_57
          have hX1 := gx_M_eq (fun b q1 q2 q3 q4 q5 q6 => hF.1 b q1 q3 q4 q5) (fun q hq => hF.2 q (by omega) (by omega)) hX
          have hF1 : ∀ a, a < 161 → w_57 a = w a := fun a ha => hF.1 a (by omega) (by omega) (by omega) (by omega)
          have hM := hX1.1
          have eb : gx_mf (gx_g K V m k N) (K 4) (K 0 2) (K 0 1) (gx_nA K k D) (gx_nB K V k D N) (K 0 2) (fun _ => 0) (100000000, 100000000, fun _ => 0) = gx_bst K V m k D N := rfl
          rw [eb] at hb1 hb2 hb3 hb4 hb5
          refine ga_aload_n 0 dX10_seats_60 rfl ?_
          refine ga_get kf_X10_260 (sh161 _) (gv hb1) dX10_seats_61 ?_
          refine ga_ldc_w kc_X10_269 dX10_seats_64 ?_
          refine ga_icmp_eq 76 dX10_seats_67 (by decide) (fun c_67 => ?_) (fun c_67 => ?_)
          · have hz : (gx_bst K V m k D N).1 = 100000000 := (nI_eq (by omega) (by decide)).mp c_67
            refine ga_aload_n 0 dX10_seats_76 rfl ?_
            refine ga_get kf_X10_260 (sh161 _) (gv hb1) dX10_seats_77 ?_
            refine ga_ldc_w kc_X10_269 dX10_seats_80 ?_
            refine ga_icmp_ne 90 dX10_seats_83 (by decide) (fun c_83 => absurd c_67 c_83) (fun c_83 => ?_)
            refine ga_iconst ((-1)) dX10_seats_86 (by decide) ?_
            refine ga_goto 94 dX10_seats_87 (by decide) ?_
            exact gd_iret dX10_seats_94 ⟨gv (by unfold aSeats; rw [if_neg hnu, if_neg hyes, ek, eD, eN, if_pos hz]), hX1, hF1⟩
          · have hz : ¬ (gx_bst K V m k D N).1 = 100000000 := fun q => c_67 (by rw [q]; rfl)
            refine ga_iload 4 dX10_seats_70 rfl ?_
            refine ga_iconst ((-1)) dX10_seats_72 (by decide) ?_
            refine ga_icmp_ne 95 dX10_seats_73 (by decide) (fun c_73 => absurd c_11 c_73) (fun c_73 => ?_)
            refine ga_aload_n 0 dX10_seats_76 rfl ?_
            refine ga_get kf_X10_260 (sh161 _) (gv hb1) dX10_seats_77 ?_
            refine ga_ldc_w kc_X10_269 dX10_seats_80 ?_
            refine ga_icmp_ne 90 dX10_seats_83 (by decide) (fun c_83 => ?_) (fun c_83 => absurd c_83 c_67)
            refine ga_aload_n 0 dX10_seats_90 rfl ?_
            refine ga_get kf_X10_260 (sh161 _) (gv hb1) dX10_seats_91 ?_
            exact gd_iret dX10_seats_94 ⟨gv (by unfold aSeats; rw [if_neg hnu, if_neg hyes, ek, eD, eN, if_neg hz, if_pos c_73]), hX1, hF1⟩
        · have hno : gx_wi (nI D) (nI 0) (nI 99) = 0 ∨ gx_wi n9 (nI 1) (nI 20) = 0 := Or.inr c_47
          refine ga_ldc kc_X10_86 dX10_seats_50 ?_
          exact gd_iret dX10_seats_52 ⟨gv (by unfold aSeats; rw [if_neg hnu, if_pos hno]), hX, fun _ _ => rfl⟩
    · refine ga_aload_n 0 dX10_seats_14 rfl ?_
      refine ga_iload 4 dX10_seats_15 rfl ?_
      refine ga_V1 km_X10_202 kv_X10_isPlayer (c_X10_isPlayer hM kw p9) (sh161 _) rfl rfl (gt_rc0 (by decide)) (Nat.le_of_ble_eq_true rfl) dX10_seats_17 ?_
      refine ga_if_ne 26 dX10_seats_20 (by decide) (fun c_20 => ?_) (fun c_20 => ?_)
      · obtain ⟨pp, hpp, rfl⟩ := gx_in_of (by have := kw.1; have := kw.2.1; have := kw.2.2.1; have := kw.2.2.2.1; omega) c_20
        have epp : (nI pp).toNatClampNeg = pp := nI_clamp (by have := kw.1; have := kw.2.1; have := kw.2.2.1; have := kw.2.2.2.1; omega)
        have hnu : ¬ (gx_in (nI k) (nI (K 0 0)) = 0 ∨ (¬ (nI pp) = -1 ∧ gx_in (nI pp) (nI (K 0 2)) = 0)) := fun q => q.elim c_5 (fun q => c_20 q.2)
        refine ga_iload_n 2 dX10_seats_26 rfl ?_
        refine ga_i2l dX10_seats_27 ?_
        refine ga_lconst 0 dX10_seats_28 (by decide) ?_
        refine ga_ldc2_w kc_X10_235 dX10_seats_29 ?_
        refine ga_S3 km_X10_64 kv_X10_in (c_X10_in (x := d9) (a := nI 0) (b := nI 99) rfl (by decide) (by decide)) (gt_rc0 (by decide)) (Nat.le_of_ble_eq_true rfl) dX10_seats_32 ?_
        refine ga_if_eq 50 dX10_seats_35 (by decide) (fun c_35 => ?_) (fun c_35 => ?_)
        · have hno : gx_wi d9 (nI 0) (nI 99) = 0 ∨ gx_wi n9 (nI 1) (nI 20) = 0 := Or.inl c_35
          refine ga_ldc kc_X10_86 dX10_seats_50 ?_
          exact gd_iret dX10_seats_52 ⟨gv (by unfold aSeats; rw [if_neg hnu, if_pos hno]), hX, fun _ _ => rfl⟩
        · obtain ⟨D, hDl, hD, rfl⟩ := gx_wi_of (by decide) (by decide) c_35
          have eD : (nI D).toNatClampNeg = D := nI_clamp (by omega)
          refine ga_iload_n 3 dX10_seats_38 rfl ?_
          refine ga_i2l dX10_seats_39 ?_
          refine ga_lconst 1 dX10_seats_40 (by decide) ?_
          refine ga_ldc2_w kc_X10_277 dX10_seats_41 ?_
          refine ga_S3 km_X10_64 kv_X10_in (c_X10_in (x := n9) (a := nI 1) (b := nI 20) rfl (by decide) (by decide)) (gt_rc0 (by decide)) (Nat.le_of_ble_eq_true rfl) dX10_seats_44 ?_
          refine ga_if_ne 53 dX10_seats_47 (by decide) (fun c_47 => ?_) (fun c_47 => ?_)
          · obtain ⟨N, hNl, hN, rfl⟩ := gx_wi_of (by decide) (by decide) c_47
            have eN : (nI N).toNatClampNeg = N := nI_clamp (by omega)
            have hyes : ¬ (gx_wi (nI D) (nI 0) (nI 99) = 0 ∨ gx_wi (nI N) (nI 1) (nI 20) = 0) := fun q => q.elim c_35 c_47
            refine ga_aload_n 0 dX10_seats_53 rfl ?_
            refine ga_iload_n 1 dX10_seats_54 rfl ?_
            refine ga_iload_n 2 dX10_seats_55 rfl ?_
            refine ga_iload_n 3 dX10_seats_56 rfl ?_
            refine gd_V3 km_X10_279 kv_X10_plans (c_X10_plans hM kw hV vw hk hD hN) (sh161 _) rfl rfl (gt_rc0 (by decide)) (Nat.le_of_ble_eq_true rfl) dX10_seats_57 (fun r_57 w_57 q_57 => ?_)
            obtain ⟨rfl, hF, hb1, hb2, hb3, hb4, hb5⟩ := q_57
            have hX1 := gx_M_eq (fun b q1 q2 q3 q4 q5 q6 => hF.1 b q1 q3 q4 q5) (fun q hq => hF.2 q (by omega) (by omega)) hX
            have hF1 : ∀ a, a < 161 → w_57 a = w a := fun a ha => hF.1 a (by omega) (by omega) (by omega) (by omega)
            have hM := hX1.1
            have eb : gx_mf (gx_g K V m k N) (K 4) (K 0 2) (K 0 1) (gx_nA K k D) (gx_nB K V k D N) (K 0 2) (fun _ => 0) (100000000, 100000000, fun _ => 0) = gx_bst K V m k D N := rfl
            rw [eb] at hb1 hb2 hb3 hb4 hb5
            refine ga_aload_n 0 dX10_seats_60 rfl ?_
            refine ga_get kf_X10_260 (sh161 _) (gv hb1) dX10_seats_61 ?_
            refine ga_ldc_w kc_X10_269 dX10_seats_64 ?_
            refine ga_icmp_eq 76 dX10_seats_67 (by decide) (fun c_67 => ?_) (fun c_67 => ?_)
            · have hz : (gx_bst K V m k D N).1 = 100000000 := (nI_eq (by omega) (by decide)).mp c_67
              refine ga_aload_n 0 dX10_seats_76 rfl ?_
              refine ga_get kf_X10_260 (sh161 _) (gv hb1) dX10_seats_77 ?_
              refine ga_ldc_w kc_X10_269 dX10_seats_80 ?_
              refine ga_icmp_ne 90 dX10_seats_83 (by decide) (fun c_83 => absurd c_67 c_83) (fun c_83 => ?_)
              refine ga_iconst ((-1)) dX10_seats_86 (by decide) ?_
              refine ga_goto 94 dX10_seats_87 (by decide) ?_
              exact gd_iret dX10_seats_94 ⟨gv (by unfold aSeats; rw [if_neg hnu, if_neg hyes, ek, eD, eN, if_pos hz]), hX1, hF1⟩
            · have hz : ¬ (gx_bst K V m k D N).1 = 100000000 := fun q => c_67 (by rw [q]; rfl)
              refine ga_iload 4 dX10_seats_70 rfl ?_
              refine ga_iconst ((-1)) dX10_seats_72 (by decide) ?_
              refine ga_icmp_ne 95 dX10_seats_73 (by decide) (fun c_73 => ?_) (fun c_73 => absurd c_73 (gx_nm1 (by omega)))
              refine ga_aload_n 0 dX10_seats_95 rfl ?_
              refine ga_get kf_X10_51 (sh161 _) rfl dX10_seats_96 ?_
              refine ga_iload 4 dX10_seats_99 rfl ?_
              refine ge_ialdE sh174 (gt_ixn (by omega)) (hb5 (by omega) pp hpp).1 dX10_seats_101 ?_
              refine ga_aload_n 0 dX10_seats_102 rfl ?_
              refine ga_get kf_X10_7 (sh161 _) rfl dX10_seats_103 ?_
              refine ga_iconst (nI 1) dX10_seats_106 (by decide) ?_
              refine gm_c1 hM dX10_seats_107 ?_
              refine ga_icmp_ge 121 dX10_seats_108 (by decide) (fun c_108 => ?_) (fun c_108 => ?_)
              · have hv0 := (gx_er_ge (hb5 (by omega) pp hpp).2 kw.2.1).mp c_108
                refine ga_iconst ((-1)) dX10_seats_121 (by decide) ?_
                exact gd_iret dX10_seats_122 ⟨gv (by unfold aSeats; rw [if_neg hnu, if_neg hyes, ek, eD, eN, epp, if_neg hz, if_neg c_73]; first | (rw [gx_seat_p hv0]; exact gx_er_p hv0) | (rw [hv0]; rfl)), hX1, hF1⟩
              · have hv0 : ¬ (gx_bst K V m k D N).2.2 pp = 0 := fun q => c_108 ((gx_er_ge (hb5 (by omega) pp hpp).2 kw.2.1).mpr q)
                refine ga_aload_n 0 dX10_seats_111 rfl ?_
                refine ga_get kf_X10_51 (sh161 _) rfl dX10_seats_112 ?_
                refine ga_iload 4 dX10_seats_115 rfl ?_
                refine ge_ialdE sh174 (gt_ixn (by omega)) (hb5 (by omega) pp hpp).1 dX10_seats_117 ?_
                refine ga_goto 122 dX10_seats_118 (by decide) ?_
                exact gd_iret dX10_seats_122 ⟨gv (by unfold aSeats; rw [if_neg hnu, if_neg hyes, ek, eD, eN, epp, if_neg hz, if_neg c_73]; first | (rw [gx_seat_p hv0]; exact gx_er_p hv0) | (rw [hv0]; rfl)), hX1, hF1⟩
          · have hno : gx_wi (nI D) (nI 0) (nI 99) = 0 ∨ gx_wi n9 (nI 1) (nI 20) = 0 := Or.inr c_47
            refine ga_ldc kc_X10_86 dX10_seats_50 ?_
            exact gd_iret dX10_seats_52 ⟨gv (by unfold aSeats; rw [if_neg hnu, if_pos hno]), hX, fun _ _ => rfl⟩
      · have hun : gx_in (nI k) (nI (K 0 0)) = 0 ∨ (¬ p9 = -1 ∧ gx_in p9 (nI (K 0 2)) = 0) := Or.inr ⟨c_11, c_20⟩
        refine ga_ldc kc_X10_191 dX10_seats_23 ?_
        exact gd_iret dX10_seats_25 ⟨gv (by unfold aSeats; rw [if_pos hun]), hX, fun _ _ => rfl⟩
set_option maxRecDepth 100000 in
set_option maxHeartbeats 4000000 in
theorem c_X9_seats {l : Launch} {G : gt_G} {n : Nat} {w : gt_W} {c : Nat} {K V : gx_K} {m : Int32} {hs : Nat → gx_K × Int32} {cnt : Nat} {im : Nat → Nat × (gx_K × Int32) × Nat} {sd : Nat} {x : Nat → Nat} {L fp : Nat} {Q : gx_K} (hX : gx_X w c K V m hs cnt im sd x L fp Q) (hW : gx_WF K V m hs cnt im sd x L fp Q) (a9 d9 n9 p9 : Int32) : gt_D l G yX9_seats cX9_seats 6 (some .int) 11 n [.ref 1, .int a9, .int d9, .int n9, .int p9] w (fun r w' => r = some (.int (aSeats K V m a9 d9 n9 p9)) ∧ gx_X w' c K V m hs cnt im sd x L fp Q ∧ ∀ a, 161 ≤ a → w' a = w a) := by
  obtain ⟨⟨hc, h11, ⟨c2, hc2, hne2, h12⟩, hfp⟩, hK, hV, hpast, him, hsd, htx, hQ⟩ := id hX
  obtain ⟨kw, vw, vd, hhr, hcnt, hhs, him2, hsd2, hxL, hfp2, qw⟩ := id hW
  have hcur : (some (Value.ref (w 1 1).toNatClampNeg) : Option Value) = some (Value.ref c) := by rw [h11, nI_clamp (by have := gt_isC_lt hc; omega)]
  have k2 := kw.2.2.1
  have k1 := kw.2.1
  refine gt_D_of (own := RX9) (nm := "seats") rfl rfl (by decide +kernel) (Nat.le_of_ble_eq_true rfl) ?_
  show gt_A _ _ _ _ _ _ _ _ _ _ _ [(0, .ref 1), (1, .int a9), (2, .int d9), (3, .int n9), (4, .int p9)] _ _
  refine ga_aload_n 0 dX9_seats_0 rfl ?_
  refine ga_get kf_X9_19 (sh1 _) hcur dX9_seats_1 ?_
  refine ga_iload_n 1 dX9_seats_4 rfl ?_
  refine ga_V1 km_X9_171 kv_X0_hasCell (c_X0_hasCell hc hK.1.1 a9) (shC hc _) rfl rfl (gt_rc0 (by decide)) (Nat.le_of_ble_eq_true rfl) dX9_seats_5 ?_
  refine ga_if_eq 29 dX9_seats_8 (by decide) (fun c_8 => ?_) (fun c_8 => ?_)
  · have hun : gx_in a9 (nI (K 0 0)) = 0 ∨ (¬ p9 = -1 ∧ gx_in p9 (nI (K 0 2)) = 0) := Or.inl c_8
    refine ga_ldc kc_X9_175 dX9_seats_29 ?_
    exact gd_iret dX9_seats_31 ⟨gv (by unfold aSeats; rw [if_pos hun]), hX, fun _ _ => rfl⟩
  · obtain ⟨k, hk, rfl⟩ := gx_in_of (by have := kw.1; have := kw.2.1; have := kw.2.2.1; have := kw.2.2.2.1; omega) c_8
    have ek : (nI k).toNatClampNeg = k := nI_clamp (by have := kw.1; have := kw.2.1; have := kw.2.2.1; have := kw.2.2.2.1; omega)
    refine ga_iload 4 dX9_seats_11 rfl ?_
    refine ga_iconst ((-1)) dX9_seats_13 (by decide) ?_
    refine ga_icmp_eq 32 dX9_seats_14 (by decide) (fun c_14 => ?_) (fun c_14 => ?_)
    · have hnu : ¬ (gx_in (nI k) (nI (K 0 0)) = 0 ∨ (¬ p9 = -1 ∧ gx_in p9 (nI (K 0 2)) = 0)) := fun q => q.elim c_8 (fun q => q.1 c_14)
      refine ga_iload_n 2 dX9_seats_32 rfl ?_
      refine ga_iconst (nI 0) dX9_seats_33 (by decide) ?_
      refine ga_bipush (nI 99) dX9_seats_34 (by decide) ?_
      refine ga_S3 km_X9_82 kv_X9_within (c_X9_within d9 (nI 0) (nI 99)) (gt_rc0 (by decide)) (Nat.le_of_ble_eq_true rfl) dX9_seats_36 ?_
      refine ga_if_eq 52 dX9_seats_39 (by decide) (fun c_39 => ?_) (fun c_39 => ?_)
      · have hno : gx_wi d9 (nI 0) (nI 99) = 0 ∨ gx_wi n9 (nI 1) (nI 20) = 0 := Or.inl c_39
        refine ga_ldc kc_X9_86 dX9_seats_52 ?_
        exact gd_iret dX9_seats_54 ⟨gv (by unfold aSeats; rw [if_neg hnu, if_pos hno]), hX, fun _ _ => rfl⟩
      · obtain ⟨D, hDl, hD, rfl⟩ := gx_wi_of (by decide) (by decide) c_39
        have eD : (nI D).toNatClampNeg = D := nI_clamp (by omega)
        refine ga_iload_n 3 dX9_seats_42 rfl ?_
        refine ga_iconst (nI 1) dX9_seats_43 (by decide) ?_
        refine ga_bipush (nI 20) dX9_seats_44 (by decide) ?_
        refine ga_S3 km_X9_82 kv_X9_within (c_X9_within n9 (nI 1) (nI 20)) (gt_rc0 (by decide)) (Nat.le_of_ble_eq_true rfl) dX9_seats_46 ?_
        refine ga_if_ne 55 dX9_seats_49 (by decide) (fun c_49 => ?_) (fun c_49 => ?_)
        · obtain ⟨N, hNl, hN, rfl⟩ := gx_wi_of (by decide) (by decide) c_49
          have eN : (nI N).toNatClampNeg = N := nI_clamp (by omega)
          have hyes : ¬ (gx_wi (nI D) (nI 0) (nI 99) = 0 ∨ gx_wi (nI N) (nI 1) (nI 20) = 0) := fun q => q.elim c_39 c_49
          refine ga_aload_n 0 dX9_seats_55 rfl ?_
          refine ga_get kf_X9_66 (sh1 _) rfl dX9_seats_56 ?_
          refine ga_aload_n 0 dX9_seats_59 rfl ?_
          refine ga_get kf_X9_19 (sh1 _) hcur dX9_seats_60 ?_
          refine ga_aload_n 0 dX9_seats_63 rfl ?_
          refine ga_get kf_X9_29 (sh1 _) rfl dX9_seats_64 ?_
          refine ga_iload_n 1 dX9_seats_67 rfl ?_
          refine ga_iload_n 2 dX9_seats_68 rfl ?_
          refine ga_iload_n 3 dX9_seats_69 rfl ?_
          refine gd_V5 km_X9_267 kv_X5_search (c_X5_search hc hK kw hV vw hk hD hN) (sh123 _) rfl rfl (gt_rc0 (by decide)) (Nat.le_of_ble_eq_true rfl) dX9_seats_70 (fun r_70 w_70 q_70 => ?_)
          obtain ⟨o70, b9, q70⟩ := q_70
          have hX1 := gx_X_eq (fun a h1 h2 h3 => o70 a (by omega)) hX
          have hF1 : ∀ a, 161 ≤ a → w_70 a = w a := fun a ha => o70 a (by omega)
          have ha : ∀ (ρ : Nat → Nat) p, p ≤ K 0 2 → gx_ams (K 4) ρ p < 55 := fun ρ p hp => by have := gx_ams_le kw ρ p hp; omega
          rcases q70 with ⟨rfl, hall⟩ | ⟨s9, hs1, hs2, hs3, rfl, hs5⟩
          · have hz : (gx_bst K V m k D N).1 = 100000000 := congrArg Prod.fst (gx_seats_none (b := b9) (b2 := fun _ => 0) (g := gx_g K V m k N) (A := gx_nA K k D) (B := gx_nB K V k D N) kw.2.2.1 ha hall)
            refine gs_istore [(0, _), (1, _), (2, _), (3, _), (4, _), (5, _)] dX9_seats_73 (by decide) rfl rfl ?_
            refine ga_iload 4 dX9_seats_75 rfl ?_
            refine ga_iconst ((-1)) dX9_seats_77 (by decide) ?_
            refine ga_icmp_eq 87 dX9_seats_78 (by decide) (fun c_78 => ?_) (fun c_78 => absurd c_14 c_78)
            refine ga_iload 5 dX9_seats_87 rfl ?_
            refine ga_goto 102 dX9_seats_89 (by decide) ?_
            exact gd_iret dX9_seats_102 ⟨gv (by unfold aSeats; rw [if_neg hnu, if_neg hyes, ek, eD, eN, if_pos hz]), hX1, hF1⟩
          · have hsm := gx_seats_some (b := b9) (b2 := fun _ => 0) (g := gx_g K V m k N) (A := gx_nA K k D) (B := gx_nB K V k D N) (by omega) ha hs2 hs3
            have e9 : (gx_bst K V m k D N).1 = s9 := hsm.1
            have hz : ¬ (gx_bst K V m k D N).1 = 100000000 := by omega
            refine gs_istore [(0, _), (1, _), (2, _), (3, _), (4, _), (5, _)] dX9_seats_73 (by decide) rfl rfl ?_
            refine ga_iload 4 dX9_seats_75 rfl ?_
            refine ga_iconst ((-1)) dX9_seats_77 (by decide) ?_
            refine ga_icmp_eq 87 dX9_seats_78 (by decide) (fun c_78 => ?_) (fun c_78 => absurd c_14 c_78)
            refine ga_iload 5 dX9_seats_87 rfl ?_
            refine ga_goto 102 dX9_seats_89 (by decide) ?_
            exact gd_iret dX9_seats_102 ⟨gv (by unfold aSeats; rw [if_neg hnu, if_neg hyes, ek, eD, eN, if_neg hz, if_pos c_14, e9]), hX1, hF1⟩
        · have hno : gx_wi (nI D) (nI 0) (nI 99) = 0 ∨ gx_wi n9 (nI 1) (nI 20) = 0 := Or.inr c_49
          refine ga_ldc kc_X9_86 dX9_seats_52 ?_
          exact gd_iret dX9_seats_54 ⟨gv (by unfold aSeats; rw [if_neg hnu, if_pos hno]), hX, fun _ _ => rfl⟩
    · refine ga_aload_n 0 dX9_seats_17 rfl ?_
      refine ga_get kf_X9_19 (sh1 _) hcur dX9_seats_18 ?_
      refine ga_iload 4 dX9_seats_21 rfl ?_
      refine ga_V1 km_X9_205 kv_X0_hasPlayer (c_X0_hasPlayer hc hK.1.2.2.1 p9) (shC hc _) rfl rfl (gt_rc0 (by decide)) (Nat.le_of_ble_eq_true rfl) dX9_seats_23 ?_
      refine ga_if_ne 32 dX9_seats_26 (by decide) (fun c_26 => ?_) (fun c_26 => ?_)
      · obtain ⟨pp, hpp, rfl⟩ := gx_in_of (by have := kw.1; have := kw.2.1; have := kw.2.2.1; have := kw.2.2.2.1; omega) c_26
        have epp : (nI pp).toNatClampNeg = pp := nI_clamp (by have := kw.1; have := kw.2.1; have := kw.2.2.1; have := kw.2.2.2.1; omega)
        have hnu : ¬ (gx_in (nI k) (nI (K 0 0)) = 0 ∨ (¬ (nI pp) = -1 ∧ gx_in (nI pp) (nI (K 0 2)) = 0)) := fun q => q.elim c_8 (fun q => c_26 q.2)
        refine ga_iload_n 2 dX9_seats_32 rfl ?_
        refine ga_iconst (nI 0) dX9_seats_33 (by decide) ?_
        refine ga_bipush (nI 99) dX9_seats_34 (by decide) ?_
        refine ga_S3 km_X9_82 kv_X9_within (c_X9_within d9 (nI 0) (nI 99)) (gt_rc0 (by decide)) (Nat.le_of_ble_eq_true rfl) dX9_seats_36 ?_
        refine ga_if_eq 52 dX9_seats_39 (by decide) (fun c_39 => ?_) (fun c_39 => ?_)
        · have hno : gx_wi d9 (nI 0) (nI 99) = 0 ∨ gx_wi n9 (nI 1) (nI 20) = 0 := Or.inl c_39
          refine ga_ldc kc_X9_86 dX9_seats_52 ?_
          exact gd_iret dX9_seats_54 ⟨gv (by unfold aSeats; rw [if_neg hnu, if_pos hno]), hX, fun _ _ => rfl⟩
        · obtain ⟨D, hDl, hD, rfl⟩ := gx_wi_of (by decide) (by decide) c_39
          have eD : (nI D).toNatClampNeg = D := nI_clamp (by omega)
          refine ga_iload_n 3 dX9_seats_42 rfl ?_
          refine ga_iconst (nI 1) dX9_seats_43 (by decide) ?_
          refine ga_bipush (nI 20) dX9_seats_44 (by decide) ?_
          refine ga_S3 km_X9_82 kv_X9_within (c_X9_within n9 (nI 1) (nI 20)) (gt_rc0 (by decide)) (Nat.le_of_ble_eq_true rfl) dX9_seats_46 ?_
          refine ga_if_ne 55 dX9_seats_49 (by decide) (fun c_49 => ?_) (fun c_49 => ?_)
          · obtain ⟨N, hNl, hN, rfl⟩ := gx_wi_of (by decide) (by decide) c_49
            have eN : (nI N).toNatClampNeg = N := nI_clamp (by omega)
            have hyes : ¬ (gx_wi (nI D) (nI 0) (nI 99) = 0 ∨ gx_wi (nI N) (nI 1) (nI 20) = 0) := fun q => q.elim c_39 c_49
            refine ga_aload_n 0 dX9_seats_55 rfl ?_
            refine ga_get kf_X9_66 (sh1 _) rfl dX9_seats_56 ?_
            refine ga_aload_n 0 dX9_seats_59 rfl ?_
            refine ga_get kf_X9_19 (sh1 _) hcur dX9_seats_60 ?_
            refine ga_aload_n 0 dX9_seats_63 rfl ?_
            refine ga_get kf_X9_29 (sh1 _) rfl dX9_seats_64 ?_
            refine ga_iload_n 1 dX9_seats_67 rfl ?_
            refine ga_iload_n 2 dX9_seats_68 rfl ?_
            refine ga_iload_n 3 dX9_seats_69 rfl ?_
            refine gd_V5 km_X9_267 kv_X5_search (c_X5_search hc hK kw hV vw hk hD hN) (sh123 _) rfl rfl (gt_rc0 (by decide)) (Nat.le_of_ble_eq_true rfl) dX9_seats_70 (fun r_70 w_70 q_70 => ?_)
            obtain ⟨o70, b9, q70⟩ := q_70
            have hX1 := gx_X_eq (fun a h1 h2 h3 => o70 a (by omega)) hX
            have hF1 : ∀ a, 161 ≤ a → w_70 a = w a := fun a ha => o70 a (by omega)
            have ha : ∀ (ρ : Nat → Nat) p, p ≤ K 0 2 → gx_ams (K 4) ρ p < 55 := fun ρ p hp => by have := gx_ams_le kw ρ p hp; omega
            rcases q70 with ⟨rfl, hall⟩ | ⟨s9, hs1, hs2, hs3, rfl, hs5⟩
            · have hz : (gx_bst K V m k D N).1 = 100000000 := congrArg Prod.fst (gx_seats_none (b := b9) (b2 := fun _ => 0) (g := gx_g K V m k N) (A := gx_nA K k D) (B := gx_nB K V k D N) kw.2.2.1 ha hall)
              refine gs_istore [(0, _), (1, _), (2, _), (3, _), (4, _), (5, _)] dX9_seats_73 (by decide) rfl rfl ?_
              refine ga_iload 4 dX9_seats_75 rfl ?_
              refine ga_iconst ((-1)) dX9_seats_77 (by decide) ?_
              refine ga_icmp_eq 87 dX9_seats_78 (by decide) (fun c_78 => absurd c_78 (gx_nm1 (by omega))) (fun c_78 => ?_)
              refine ga_iload 5 dX9_seats_81 rfl ?_
              refine ga_iconst ((-1)) dX9_seats_83 (by decide) ?_
              refine ga_icmp_ne 92 dX9_seats_84 (by decide) (fun c_84 => absurd rfl c_84) (fun c_84 => ?_)
              refine ga_iload 5 dX9_seats_87 rfl ?_
              refine ga_goto 102 dX9_seats_89 (by decide) ?_
              exact gd_iret dX9_seats_102 ⟨gv (by unfold aSeats; rw [if_neg hnu, if_neg hyes, ek, eD, eN, if_pos hz]), hX1, hF1⟩
            · have hsm := gx_seats_some (b := b9) (b2 := fun _ => 0) (g := gx_g K V m k N) (A := gx_nA K k D) (B := gx_nB K V k D N) (by omega) ha hs2 hs3
              have e9 : (gx_bst K V m k D N).1 = s9 := hsm.1
              have hz : ¬ (gx_bst K V m k D N).1 = 100000000 := by omega
              refine gs_istore [(0, _), (1, _), (2, _), (3, _), (4, _), (5, _)] dX9_seats_73 (by decide) rfl rfl ?_
              refine ga_iload 4 dX9_seats_75 rfl ?_
              refine ga_iconst ((-1)) dX9_seats_77 (by decide) ?_
              refine ga_icmp_eq 87 dX9_seats_78 (by decide) (fun c_78 => absurd c_78 (gx_nm1 (by omega))) (fun c_78 => ?_)
              refine ga_iload 5 dX9_seats_81 rfl ?_
              refine ga_iconst ((-1)) dX9_seats_83 (by decide) ?_
              refine ga_icmp_ne 92 dX9_seats_84 (by decide) (fun c_84 => ?_) (fun c_84 => absurd c_84 (gx_nm1 (by omega)))
              refine ga_aload_n 0 dX9_seats_92 rfl ?_
              refine ga_get kf_X9_66 (sh1 _) rfl dX9_seats_93 ?_
              refine ga_get kf_X9_271 (sh123 _) rfl dX9_seats_96 ?_
              refine ga_iload 4 dX9_seats_99 rfl ?_
              refine ge_ialdE sh124 (gt_ixn (by omega)) (hs5 pp (by omega)) dX9_seats_101 ?_
              exact gd_iret dX9_seats_102 ⟨gv (by unfold aSeats; rw [if_neg hnu, if_neg hyes, ek, eD, eN, epp, if_neg hz, if_neg (gx_nm1 (by omega))]; exact congrArg gx_seat (hsm.2 pp hpp).symm), hX1, hF1⟩
          · have hno : gx_wi (nI D) (nI 0) (nI 99) = 0 ∨ gx_wi n9 (nI 1) (nI 20) = 0 := Or.inr c_49
            refine ga_ldc kc_X9_86 dX9_seats_52 ?_
            exact gd_iret dX9_seats_54 ⟨gv (by unfold aSeats; rw [if_neg hnu, if_pos hno]), hX, fun _ _ => rfl⟩
      · have hun : gx_in (nI k) (nI (K 0 0)) = 0 ∨ (¬ p9 = -1 ∧ gx_in p9 (nI (K 0 2)) = 0) := Or.inr ⟨c_14, c_26⟩
        refine ga_ldc kc_X9_175 dX9_seats_29 ?_
        exact gd_iret dX9_seats_31 ⟨gv (by unfold aSeats; rw [if_pos hun]), hX, fun _ _ => rfl⟩
