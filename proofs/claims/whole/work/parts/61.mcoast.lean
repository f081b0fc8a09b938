/-! a coast, by the reference -/
def gx_b0 (f : Nat → Int32) (t : Nat) : Nat → Int32 := fun q => if q < t then (if 12 ≤ q ∧ q ≤ 17 then -1 else nI 0) else f q
theorem gx_b0_0 (f : Nat → Int32) : gx_b0 f 0 = f := by
  funext q
  exact if_neg (Nat.not_lt_zero q)
theorem gx_b0_s (f : Nat → Int32) (t : Nat) {v : Int32} (hv : v = if 12 ≤ t ∧ t ≤ 17 then -1 else nI 0) : upd (gx_b0 f t) t v = gx_b0 f (t + 1) := by
  funext q
  unfold upd gx_b0
  by_cases e : q = t
  · rw [if_pos e, if_pos (show q < t + 1 by omega), hv, e]
  · rw [if_neg e]
    by_cases e2 : q < t
    · rw [if_pos e2, if_pos (show q < t + 1 by omega)]
    · rw [if_neg e2, if_neg (by omega)]
theorem gx_b0_lt {f : Nat → Int32} {t q : Nat} (h : q < t) : gx_b0 f t q = if 12 ≤ q ∧ q ≤ 17 then -1 else nI 0 := if_pos h
theorem gx_ms_begin {r f : Nat → Int32} {K : gx_K} (kw : gx_KW K) (h : gx_mc r K) : gx_ms (gx_cp r (gx_b0 f 24) 36 19 4) K (gx_begin K) (nI 0) := by
  have k1 := kw.2.1
  have k2 := kw.2.2.1
  have k3 := kw.2.2.2.1
  refine ⟨?_, ?_, fun j hj => ?_, fun j hj => ?_, fun j hj => ?_, fun j hj => ?_⟩
  · rw [gx_cp_out (by omega), gx_b0_lt (by decide), if_neg (by decide)]; rfl
  · rw [gx_cp_out (by omega), gx_b0_lt (by decide), if_neg (by decide)]
  · rw [gx_cp_out (by omega), gx_b0_lt (by omega), if_neg (by omega)]; rfl
  · rw [gx_cp_out (by omega), gx_b0_lt (by omega), if_pos (by omega)]; rfl
  · rw [gx_cp_out (by omega), gx_b0_lt (by omega), if_neg (by omega)]; rfl
  · rw [gx_cp_in (by omega), h.2.2.2.2.2.2.1 j hj]; rfl
set_option maxRecDepth 100000 in
set_option maxHeartbeats 4000000 in
theorem c_X10_begins {l : Launch} {G : gt_G} {n : Nat} {w : gt_W}  : gt_D l G yX10_begins cX10_begins 2 none 2 n [.ref 161] w (fun r w' => r = none ∧ (∀ c, c ≠ 161 → c ≠ 164 → c ≠ 168 → w' c = w c) ∧ (∀ q, q ≠ 5 → q ≠ 13 → q ≠ 15 → q ≠ 17 → w' 161 q = w 161 q) ∧ w' 161 5 = nI 0 ∧ w' 161 13 = nI 0 ∧ w' 161 15 = nI 0 ∧ w' 161 17 = nI 0 ∧ w' 168 0 = nI 0 ∧ w' 168 1 = nI 0 ∧ ∀ K, gx_KW K → gx_mc (w 162) K → gx_ms (w' 164) K (gx_begin K) (nI 0)) := by
  refine gt_D_of (own := RX10) (nm := "begins") rfl rfl (by decide +kernel) (Nat.le_of_ble_eq_true rfl) ?_
  show gt_A _ _ _ _ _ _ _ _ _ _ _ [(0, .ref 161)] _ _
  refine ga_iconst (nI 0) dX10_begins_0 (by decide) ?_
  refine gs_istore_n [(0, _), (1, _)] dX10_begins_1 (by decide) rfl rfl ?_
  have loop : ∀ j t, t + j = 24 → gt_A l G RX10 "begins" cX10_begins 2 none (gt_rm 2 0 0) (gt_ZD G n (fun r w' => r = none ∧ (∀ c, c ≠ 161 → c ≠ 164 → c ≠ 168 → w' c = w c) ∧ (∀ q, q ≠ 5 → q ≠ 13 → q ≠ 15 → q ≠ 17 → w' 161 q = w 161 q) ∧ w' 161 5 = nI 0 ∧ w' 161 13 = nI 0 ∧ w' 161 15 = nI 0 ∧ w' 161 17 = nI 0 ∧ w' 168 0 = nI 0 ∧ w' 168 1 = nI 0 ∧ ∀ K, gx_KW K → gx_mc (w 162) K → gx_ms (w' 164) K (gx_begin K) (nI 0))) (n, 0, 0) 2 [(0, .ref 161), (1, .int (nI t))] [] (gt_enc (gt_wr w 164 (gx_b0 (w 164) t))) := by
    intro j
    induction j with
    | zero =>
      intro t ht
      have et : t = 24 := by omega
      rw [et]
      refine ga_iload_n 1 dX10_begins_2 rfl ?_
      refine ga_bipush (nI 24) dX10_begins_3 (by decide) ?_
      refine ga_icmp_ge 39 dX10_begins_5 (by decide) (fun c_5 => ?_) (fun c_5 => absurd (nI_le (by omega) (by omega)) c_5)
      refine ga_aload_n 0 dX10_begins_39 rfl ?_
      refine ga_get kf_X10_7 (sh161 _) rfl dX10_begins_40 ?_
      refine ga_bipush (nI 36) dX10_begins_43 (by decide) ?_
      refine ga_aload_n 0 dX10_begins_45 rfl ?_
      refine ga_get kf_X10_16 (sh161 _) rfl dX10_begins_46 ?_
      refine ga_bipush (nI 19) dX10_begins_49 (by decide) ?_
      refine ga_iconst (nI 4) dX10_begins_51 (by decide) ?_
      refine ga_S5 km_X10_68 kv_X10_copies (c_X10_copies (i := 36) (j := 19) (N := 4) sh162 sh164 (by decide) (by decide) (by decide) (by decide) (by decide)) (gt_rc0 (by decide)) (Nat.le_of_ble_eq_true rfl) dX10_begins_52 ?_
      rw [gt_wr_eq, gt_wr_wr, gt_wr_ne (a := 164) (k := 162) _ _ (by decide)]
      generalize hw52 : gt_wr w 164 (gx_cp (w 162) (gx_b0 (w 164) 24) 36 19 4) = w_52
      refine ga_aload_n 0 dX10_begins_55 rfl ?_
      refine ga_iconst (nI 0) dX10_begins_56 (by decide) ?_
      refine gw_put 5 kp_X10_72 (sh161 _) (sh161 _) rfl rfl (Nat.le_of_ble_eq_true rfl) dX10_begins_57 (fun w_57 o_57 e_57 => ?_)
      refine ga_aload_n 0 dX10_begins_60 rfl ?_
      refine ga_iconst (nI 0) dX10_begins_61 (by decide) ?_
      refine gw_put 13 kp_X10_75 (sh161 _) (sh161 _) rfl rfl (Nat.le_of_ble_eq_true rfl) dX10_begins_62 (fun w_62 o_62 e_62 => ?_)
      refine ga_aload_n 0 dX10_begins_65 rfl ?_
      refine ga_iconst (nI 0) dX10_begins_66 (by decide) ?_
      refine gw_put 15 kp_X10_78 (sh161 _) (sh161 _) rfl rfl (Nat.le_of_ble_eq_true rfl) dX10_begins_67 (fun w_67 o_67 e_67 => ?_)
      refine ga_aload_n 0 dX10_begins_70 rfl ?_
      refine ga_iconst (nI 0) dX10_begins_71 (by decide) ?_
      refine gw_put 17 kp_X10_81 (sh161 _) (sh161 _) rfl rfl (Nat.le_of_ble_eq_true rfl) dX10_begins_72 (fun w_72 o_72 e_72 => ?_)
      refine ga_aload_n 0 dX10_begins_75 rfl ?_
      refine ga_get kf_X10_28 (sh161 _) rfl dX10_begins_76 ?_
      refine ga_iconst (nI 0) dX10_begins_79 (by decide) ?_
      refine ga_iconst (nI 0) dX10_begins_80 (by decide) ?_
      refine gw_zast (sh168) (gt_ixn (by decide)) (by decide) dX10_begins_81 (fun w_81 o_81 e_81 => ?_)
      refine ga_aload_n 0 dX10_begins_82 rfl ?_
      refine ga_get kf_X10_28 (sh161 _) rfl dX10_begins_83 ?_
      refine ga_iconst (nI 1) dX10_begins_86 (by decide) ?_
      refine ga_iconst (nI 0) dX10_begins_87 (by decide) ?_
      refine gw_zast (sh168) (gt_ixn (by decide)) (by decide) dX10_begins_88 (fun w_88 o_88 e_88 => ?_)
      exact gd_vret dX10_begins_89 ⟨rfl, fun c h1 h2 h3 => by rw [o_88 c h3, o_81 c h3, o_72 c h1, o_67 c h1, o_62 c h1, o_57 c h1, ← hw52, gt_wr_ne _ _ h2], fun q h1 h2 h3 h4 => by rw [o_88 161 (by decide), o_81 161 (by decide), e_72, upd_ne _ _ h4, e_67, upd_ne _ _ h3, e_62, upd_ne _ _ h2, e_57, upd_ne _ _ h1, ← hw52, gt_wr_ne _ _ (by decide)], by rw [o_88 161 (by decide), o_81 161 (by decide), e_72, upd_ne _ _ (by decide), e_67, upd_ne _ _ (by decide), e_62, upd_ne _ _ (by decide), e_57, upd_eq], by rw [o_88 161 (by decide), o_81 161 (by decide), e_72, upd_ne _ _ (by decide), e_67, upd_ne _ _ (by decide), e_62, upd_eq], by rw [o_88 161 (by decide), o_81 161 (by decide), e_72, upd_ne _ _ (by decide), e_67, upd_eq], by rw [o_88 161 (by decide), o_81 161 (by decide), e_72, upd_eq], by rw [e_88, upd_ne _ _ (by decide), e_81, upd_eq], by rw [e_88, upd_eq], fun K kw h => by rw [o_88 164 (by decide), o_81 164 (by decide), o_72 164 (by decide), o_67 164 (by decide), o_62 164 (by decide), o_57 164 (by decide), ← hw52, gt_wr_eq]; exact gx_ms_begin kw h⟩
    | succ j ih =>
      intro t ht
      refine ga_iload_n 1 dX10_begins_2 rfl ?_
      refine ga_bipush (nI 24) dX10_begins_3 (by decide) ?_
      refine ga_icmp_ge 39 dX10_begins_5 (by decide) (fun c_5 => absurd c_5 (nI_ge (by omega) (by omega))) (fun c_5 => ?_)
      refine ga_aload_n 0 dX10_begins_8 rfl ?_
      refine ga_get kf_X10_16 (sh161 _) rfl dX10_begins_9 ?_
      refine ga_iload_n 1 dX10_begins_12 rfl ?_
      refine ga_iload_n 1 dX10_begins_13 rfl ?_
      refine ga_i2l dX10_begins_14 ?_
      refine ga_ldc2_w kc_X10_60 dX10_begins_15 ?_
      refine ga_ldc2_w kc_X10_62 dX10_begins_18 ?_
      refine ga_S3 km_X10_64 kv_X10_in (c_X10_in (x := nI t) (a := nI 12) (b := nI 17) rfl (by decide) (by decide)) (gt_rc0 (by decide)) (Nat.le_of_ble_eq_true rfl) dX10_begins_21 ?_
      refine ga_if_eq 31 dX10_begins_24 (by decide) (fun c_24 => ?_) (fun c_24 => ?_)
      · have hv9 : nI 0 = if 12 ≤ t ∧ t ≤ 17 then -1 else nI 0 := by
          rw [if_neg]
          intro q
          exact absurd c_24 (by unfold gx_wi; rw [if_pos ⟨nI_le q.1 (by omega), nI_le q.2 (by omega)⟩]; decide)
        refine ga_iconst (nI 0) dX10_begins_31 (by decide) ?_
        refine ge_iast sh164 (gt_ixn (by omega)) dX10_begins_32 ?_
        refine gs_iincN 1 1 [(0, _), (1, _)] dX10_begins_33 rfl (by decide) (by decide) rfl rfl ?_
        refine ga_goto 2 dX10_begins_36 (by decide) ?_
        rw [gt_wr_eq, gt_wr_wr, gx_b0_s _ _ hv9]
        exact ih (t + 1) (by omega)
      · have hv9 : (-1 : Int32) = if 12 ≤ t ∧ t ≤ 17 then -1 else nI 0 := by
          rw [if_pos]
          have hin : nI 12 ≤ nI t ∧ nI t ≤ nI 17 := Decidable.byContradiction fun q => c_24 (by unfold gx_wi; rw [if_neg q]; exact nI_0)
          exact ⟨(nI_leI (by decide) (by omega)).mp hin.1, (nI_leI (by omega) (by decide)).mp hin.2⟩
        refine ga_iconst ((-1)) dX10_begins_27 (by decide) ?_
        refine ga_goto 32 dX10_begins_28 (by decide) ?_
        refine ge_iast sh164 (gt_ixn (by omega)) dX10_begins_32 ?_
        refine gs_iincN 1 1 [(0, _), (1, _)] dX10_begins_33 rfl (by decide) (by decide) rfl rfl ?_
        refine ga_goto 2 dX10_begins_36 (by decide) ?_
        rw [gt_wr_eq, gt_wr_wr, gx_b0_s _ _ hv9]
        exact ih (t + 1) (by omega)
  have h9 := loop 24 0 (by omega)
  rw [gx_b0_0, gt_wr_self] at h9
  exact h9
/-- all clauses, the cells' among them -/
def gx_rr (x : Nat → Nat) (L : Nat) : Nat → gx_T → gx_K → gx_T × gx_K
  | 0, s, K => (s, K)
  | f + 1, s, K => if s.2.1 = 0 then (if gx_skip x L s.1 < L then gx_rr x L f (gx_cl1 x L (gx_skip x L s.1, s.2) K) (gx_cl1K x L (gx_skip x L s.1, s.2) K) else ((gx_skip x L s.1, s.2), K)) else (s, K)
theorem gx_clK_00 {x : Nat → Nat} {L : Nat} {s : gx_T} {K : gx_K} : gx_clK x L s K 0 0 = K 0 0 := by
  unfold gx_clK gx_twK gx_plK gx_boK
  split
  · split <;> simp [gx_up]
  · split
    · split <;> simp [gx_up]
    · split
      · split <;> simp [gx_up]
      · rfl
theorem gx_rl_rr {x : Nat → Nat} {L : Nat} : ∀ f (s : gx_T) (K : gx_K), 1 ≤ K 0 0 → gx_rl x L f s K = gx_rr x L f s K
  | 0, _, _, _ => rfl
  | f + 1, s, K, h => by
    unfold gx_rl gx_rr
    have e1 : ∀ s, gx_cl1 x L s K = gx_cl x L s K := fun s => if_neg (by omega)
    have e2 : ∀ s, gx_cl1K x L s K = gx_clK x L s K := fun s => if_neg (by omega)
    rw [e1, e2, gx_rl_rr f _ _ (by rw [gx_clK_00]; exact h)]
theorem gx_ri_rr {x : Nat → Nat} {L : Nat} (hx : gx_Tx x L) : gx_ri x L = gx_rr x L 241 (0, 0, 0) (fun _ _ => 0) := by
  have hw : gx_RW x L (gx_skip x L 0, 0, 0) := ⟨hx.1, (gx_skip_b (L - 0) 0 (by omega)).2, Nat.zero_le _, Nat.zero_le _, hx.2⟩
  show (if gx_skip x L 0 < L then _ else _) = (if gx_skip x L 0 < L then _ else _)
  by_cases q : gx_skip x L 0 < L
  · rw [if_pos q, if_pos q, gx_rl_rr _ _ _ (gx_KB_ce hw).1.1]
    rfl
  · rw [if_neg q, if_neg q]
theorem gx_rr_bad {x : Nat → Nat} {L : Nat} {s : gx_T} {K : gx_K} (h : ¬ s.2.1 = 0) : ∀ f, gx_rr x L f s K = (s, K)
  | 0 => rfl
  | f + 1 => by unfold gx_rr; rw [if_neg h]
theorem gx_rr_end {x : Nat → Nat} {L : Nat} {s : gx_T} {K : gx_K} (h : s.2.1 = 0) (q : ¬ gx_skip x L s.1 < L) : ∀ f, (gx_rr x L f s K).1.2 = s.2 ∧ (gx_rr x L f s K).2 = K
  | 0 => ⟨rfl, rfl⟩
  | f + 1 => by unfold gx_rr; rw [if_pos h, if_neg q]; exact ⟨rfl, rfl⟩
theorem gx_sgn_adv {x : Nat → Nat} {L c : Nat} {s : gx_T} (h : s.1 ≤ L) (k : (gx_sgn x L s c).2.1 = 0) : s.1 + 1 ≤ (gx_sgn x L s c).1 ∧ (gx_sgn x L s c).1 ≤ L := by
  have q := gx_sgn_0 k
  have h1 := (gx_skip_b (x := x) (L := L) (L - s.1) s.1 (by omega)).1
  have e : gx_sgn x L s c = (gx_skip x L s.1 + 1, s.2) := if_pos ⟨q.2.2.1, q.2.2.2⟩
  rw [e]
  exact ⟨Nat.succ_le_succ h1, q.2.2.1⟩
theorem gx_cs_adv {x : Nat → Nat} {L : Nat} : ∀ k (s : gx_T) (K : gx_K), s.1 ≤ L → s.1 ≤ (gx_cs x L k s K).1.1 ∧ (gx_cs x L k s K).1.1 ≤ L
  | 0, s, K, h => ⟨Nat.le_refl _, h⟩
  | k + 1, s, K, h => by
    have h1 := gx_skip_b (x := x) (L := L) (L - s.1) s.1 (by omega)
    unfold gx_cs
    split
    · have a := gx_sgn_ge (x := x) (L := L) (c := 44) (s := (gx_skip x L s.1, s.2)) h1.2
      have b := gx_num_ge (x := x) (L := L) (s := gx_sgn x L (gx_skip x L s.1, s.2) 44) a.2 0 60
      have c := gx_num_L (x := x) (L := L) (s := gx_sgn x L (gx_skip x L s.1, s.2) 44) a.2 0 60
      have d := gx_cs_adv (x := x) (L := L) k (gx_num x L (gx_sgn x L (gx_skip x L s.1, s.2) 44) 0 60) (gx_up (gx_up K 1 (10 - (k + 1)) (gx_nv x L (gx_sgn x L (gx_skip x L s.1, s.2) 44))) 0 0 (10 - (k + 1) + 1)) c
      have a1 : gx_skip x L s.1 ≤ _ := a.1
      omega
    · exact h1
theorem gx_ce_adv {x : Nat → Nat} {L : Nat} {s : gx_T} {K : gx_K} (h : s.1 ≤ L) (k : (gx_ce x L s K).2.1 = 0) : s.1 + 1 ≤ (gx_ce x L s K).1 ∧ (gx_ce x L s K).1 ≤ L := by
  have a := gx_sgn_ge (x := x) (L := L) (c := 99) h
  have b := gx_num_ge (x := x) (L := L) (s := gx_sgn x L s 99) a.2 0 60
  have c := gx_num_L (x := x) (L := L) (s := gx_sgn x L s 99) a.2 0 60
  have d := gx_cs_adv (x := x) (L := L) 9 (gx_num x L (gx_sgn x L s 99) 0 60) (gx_up (gx_up K 1 0 (gx_nv x L (gx_sgn x L s 99))) 0 0 1) c
  have d : gx_cs x L 9 (gx_num x L (gx_sgn x L s 99) 0 60) (gx_up (gx_up K 1 0 (gx_nv x L (gx_sgn x L s 99))) 0 0 1) = gx_ce0 x L s K → s.1 ≤ (gx_ce0 x L s K).1.1 ∧ (gx_ce0 x L s K).1.1 ≤ L := fun e => by rw [e] at d; omega
  have d := d rfl
  unfold gx_ce at k ⊢
  by_cases q : (gx_ce0 x L s K).2 0 0 < 2
  · rw [if_pos q] at k
    exact absurd (gx_sgn_0 k).2.1 (gx_fl_z (by decide))
  · rw [if_neg q] at k ⊢
    have e := gx_sgn_adv d.2 k
    omega
theorem gx_cl_adv {x : Nat → Nat} {L : Nat} {s : gx_T} {K : gx_K} (h : s.1 ≤ L) (k : (gx_cl x L s K).2.1 = 0) : s.1 + 1 ≤ (gx_cl x L s K).1 ∧ (gx_cl x L s K).1 ≤ L := by
  unfold gx_cl at k ⊢
  split at k
  · unfold gx_tw at k ⊢
    split at k
    · exact absurd k (gx_fl_z (by decide))
    · rename_i h1 h2
      rw [if_pos h1, if_neg h2]
      have a := gx_sgn_ge (x := x) (L := L) (c := 116) h
      have b := gx_num_ge (x := x) (L := L) (s := gx_sgn x L s 116) a.2 0 (K 0 0 - 1)
      have c := gx_num_L (x := x) (L := L) (s := gx_sgn x L s 116) a.2 0 (K 0 0 - 1)
      have d := gx_num_ge (x := x) (L := L) c 1 20
      have e := gx_num_L (x := x) (L := L) c 1 20
      have f := gx_sgn_adv e k
      omega
  · rename_i g1
    rw [if_neg g1]
    split at k
    · unfold gx_pl at k ⊢
      split at k
      · exact absurd k (gx_fl_z (by decide))
      · rename_i h1 h2
        rw [if_pos h1, if_neg h2]
        have a := gx_sgn_ge (x := x) (L := L) (c := 112) h
        have b := gx_num_ge (x := x) (L := L) (s := gx_sgn x L s 112) a.2 1 9
        have c := gx_num_L (x := x) (L := L) (s := gx_sgn x L s 112) a.2 1 9
        have f := gx_sgn_adv c k
        omega
    · rename_i g2
      rw [if_neg g2]
      split at k
      · unfold gx_bo at k ⊢
        split at k
        · exact absurd k (gx_fl_z (by decide))
        · rename_i h1 h2
          rw [if_pos h1, if_neg h2]
          have a := gx_sgn_ge (x := x) (L := L) (c := 98) h
          have b := gx_num_ge (x := x) (L := L) (s := gx_sgn x L s 98) a.2 1 30
          have c := gx_num_L (x := x) (L := L) (s := gx_sgn x L s 98) a.2 1 30
          have d := gx_num_ge (x := x) (L := L) c 0 (K 0 0 - 1)
          have e := gx_num_L (x := x) (L := L) c 0 (K 0 0 - 1)
          have d2 := gx_num_ge (x := x) (L := L) e 0 (K 0 0 - 1)
          have e2 := gx_num_L (x := x) (L := L) e 0 (K 0 0 - 1)
          have f := gx_sgn_adv e2 k
          omega
      · split at k
        · exact absurd k (gx_fl_z (by decide))
        · exact absurd k (gx_fl_z (by decide))
theorem gx_cl1_adv {x : Nat → Nat} {L : Nat} {s : gx_T} {K : gx_K} (h : s.1 ≤ L) (k : (gx_cl1 x L s K).2.1 = 0) : s.1 + 1 ≤ (gx_cl1 x L s K).1 ∧ (gx_cl1 x L s K).1 ≤ L := by
  unfold gx_cl1 at k ⊢
  by_cases q : K 0 0 = 0
  · rw [if_pos q] at k ⊢; exact gx_ce_adv h k
  · rw [if_neg q] at k ⊢; exact gx_cl_adv h k
theorem gx_cs_lh {x : Nat → Nat} {L : Nat} : ∀ k (s : gx_T) (K : gx_K), k ≤ 9 → K 0 0 = 10 - k → 1 ≤ (gx_cs x L k s K).2 0 0 ∧ (gx_cs x L k s K).2 0 0 ≤ 10
  | 0, s, K, _, h => by show 1 ≤ K 0 0 ∧ K 0 0 ≤ 10; omega
  | k + 1, s, K, hk, h => by
    unfold gx_cs
    split
    · exact gx_cs_lh k _ _ (by omega) (by rw [gx_up_eq]; omega)
    · show 1 ≤ K 0 0 ∧ K 0 0 ≤ 10
      omega
theorem gx_cl1_Kr {x : Nat → Nat} {L : Nat} {s : gx_T} {K : gx_K} (hx : gx_Tx x L) (h : s.1 ≤ L) (hk : gx_Kr K) : gx_Kr (gx_cl1K x L s K) := by
  unfold gx_cl1K
  by_cases q : K 0 0 = 0
  · rw [if_pos q]
    rcases hk with hk | hk
    · right
      have hc : ∀ i, ¬ i = 0 → (gx_ce0 x L s K).2 0 i = K 0 i := fun i hi => by
        unfold gx_ce0
        rw [gx_cs_cnt 9 _ _ i hi, gx_up_col hi, gx_up_row (by decide)]
      have c1 := hc 1 (by decide)
      have c2 := hc 2 (by decide)
      have c3 := hc 3 (by decide)
      refine ⟨?_, by omega, by omega, by omega⟩
      have b2 := gx_cs_lh (x := x) (L := L) 9 (gx_num x L (gx_sgn x L s 99) 0 60) (gx_up (gx_up K 1 0 (gx_nv x L (gx_sgn x L s 99))) 0 0 1) (by decide) (gx_up_eq _ _ _ _)
      exact b2
    · exact absurd q (by have := hk.1; omega)
  · rw [if_neg q]
    rcases hk with hk | hk
    · exact absurd hk.1 q
    · exact Or.inr (gx_clK_B hk)
def gx_z0 (f : Nat → Int32) (t : Nat) : Nat → Int32 := fun q => if q < t then nI 0 else f q
theorem gx_z0_0 (f : Nat → Int32) : gx_z0 f 0 = f := by
  funext q
  exact if_neg (Nat.not_lt_zero q)
theorem gx_z0_s (f : Nat → Int32) (t : Nat) : upd (gx_z0 f t) t (nI 0) = gx_z0 f (t + 1) := by
  funext q
  unfold upd gx_z0
  by_cases e : q = t
  · rw [if_pos e, if_pos (by omega)]
  · rw [if_neg e]
    by_cases e2 : q < t
    · rw [if_pos e2, if_pos (by omega)]
    · rw [if_neg e2, if_neg (by omega)]
theorem gx_mc_z0 (f : Nat → Int32) : gx_mc (gx_z0 f 44) (fun _ _ => 0) := ⟨fun i hi => if_pos (by omega), fun j hj => absurd hj (Nat.not_lt_zero j), fun j hj => absurd hj (Nat.not_lt_zero j), fun j hj => absurd hj (Nat.not_lt_zero j), fun j hj => absurd hj (Nat.not_lt_zero j), fun j hj => absurd hj (Nat.not_lt_zero j), fun j hj => absurd hj (Nat.not_lt_zero j), fun j hj => absurd hj (Nat.not_lt_zero j)⟩
theorem gx_mc_eq {f g : Nat → Int32} {K : gx_K} (kw : gx_KW K) (e : ∀ i, i < 44 → f i = g i) (h : gx_mc g K) : gx_mc f K := by
  obtain ⟨h0, h1, h2, h3, h4, h5, h6, h7⟩ := h
  have k0 := kw.1
  have k1 := kw.2.1
  have k2 := kw.2.2.1
  have k3 := kw.2.2.2.1
  exact ⟨fun i hi => (e i (by omega)).trans (h0 i hi), fun j hj => (e _ (by omega)).trans (h1 j hj), fun j hj => (e _ (by omega)).trans (h2 j hj), fun j hj => (e _ (by omega)).trans (h3 j hj), fun j hj => (e _ (by omega)).trans (h4 j hj), fun j hj => (e _ (by omega)).trans (h5 j hj), fun j hj => (e _ (by omega)).trans (h6 j hj), fun j hj => (e _ (by omega)).trans (h7 j hj)⟩
theorem gx_sv_neg {x : Nat → Nat} {L b : Nat} (hx : gx_Tx x L) : gx_sv x L b < 0 ↔ ¬ b < L := by
  unfold gx_sv gx_hr
  by_cases hd : gx_dig x L b
  · rw [if_pos hd]
    exact ⟨fun q => absurd q (by decide), fun q => absurd hd.1 q⟩
  · rw [if_neg hd]
    by_cases h : b < L
    · rw [if_pos h]
      exact ⟨fun q => absurd q (nI_pos (by have := hx.2 b h; omega)), fun q => absurd h q⟩
    · rw [if_neg h]
      exact ⟨fun _ => h, fun _ => by decide⟩
set_option maxRecDepth 100000 in
set_option maxHeartbeats 4000000 in
theorem c_X10_coast {l : Launch} {G : gt_G} {n : Nat} {w : gt_W} {K V : gx_K} {m : Int32} {hs : Nat → gx_K × Int32} {cnt : Nat} {im : Nat → Nat × (gx_K × Int32) × Nat} {sd : Nat} {x : Nat → Nat} {L fp : Nat} {Q : gx_K} (hX : gx_M w K V m hs cnt im sd x L fp Q) (hW : gx_WF K V m hs cnt im sd x L fp Q)  : gt_D l G yX10_coast cX10_coast 2 (some .int) 6 n [.ref 161] w (fun r w' => r = some (.int (aCoast x L)) ∧ gx_MZ w' (nCoast (K, (V, m), hs, cnt, im, sd, x, L, fp, Q)) ∧ ∀ a, a < 161 → w' a = w a) := by
  obtain ⟨hM, hV, hpast, him, hsd, htx, hfp, hQ⟩ := id hX
  obtain ⟨kw, vw, vd, hhr, hcnt, hhs, him2, hsd2, hxL, hfp2, qw⟩ := id hW
  refine gt_D_of (own := RX10) (nm := "coast") rfl rfl (by decide +kernel) (Nat.le_of_ble_eq_true rfl) ?_
  show gt_A _ _ _ _ _ _ _ _ _ _ _ [(0, .ref 161)] _ _
  refine ga_iconst (nI 0) dX10_coast_0 (by decide) ?_
  refine gs_istore_n [(0, _), (1, _)] dX10_coast_1 (by decide) rfl rfl ?_
  have loop : ∀ j t, t + j = 44 → gt_A l G RX10 "coast" cX10_coast 2 (some .int) (gt_rm 6 0 0) (gt_ZD G n (fun r w' => r = some (.int (aCoast x L)) ∧ gx_MZ w' (nCoast (K, (V, m), hs, cnt, im, sd, x, L, fp, Q)) ∧ ∀ a, a < 161 → w' a = w a)) (n, 0, 0) 2 [(0, .ref 161), (1, .int (nI t))] [] (gt_enc (gt_wr w 163 (gx_z0 (w 163) t))) := by
    intro j
    induction j with
    | zero =>
      intro t ht
      have et : t = 44 := by omega
      rw [et]
      refine ga_iload_n 1 dX10_coast_2 rfl ?_
      refine ga_bipush (nI 44) dX10_coast_3 (by decide) ?_
      refine ga_icmp_ge 21 dX10_coast_5 (by decide) (fun c_5 => ?_) (fun c_5 => absurd (nI_le (by omega) (by omega)) c_5)
      refine ga_aload_n 0 dX10_coast_21 rfl ?_
      refine ga_iconst (nI 0) dX10_coast_22 (by decide) ?_
      refine gw_put 18 kp_X10_91 (sh161 _) (sh161 _) rfl rfl (Nat.le_of_ble_eq_true rfl) dX10_coast_23 (fun w_23 o_23 e_23 => ?_)
      refine ga_aload_n 0 dX10_coast_26 rfl ?_
      refine ga_iconst ((-1)) dX10_coast_27 (by decide) ?_
      refine gw_put 11 kp_X10_35 (sh161 _) (sh161 _) rfl rfl (Nat.le_of_ble_eq_true rfl) dX10_coast_28 (fun w_28 o_28 e_28 => ?_)
      refine ga_iconst (nI 1) dX10_coast_31 (by decide) ?_
      refine gs_istore_n [(0, _), (1, _)] dX10_coast_32 (by decide) rfl rfl ?_
      refine ga_aload_n 0 dX10_coast_33 rfl ?_
      refine gd_V0 km_X10_117 kv_X10_step (c_X10_step (x := x) (L := L) (a := 0) ⟨by rw [e_28, upd_ne _ _ (by decide), e_23, upd_ne _ _ (by decide), gt_wr_ne _ _ (by decide)]; exact htx.1, fun j hj => by rw [o_28 169 (by decide), o_23 169 (by decide), gt_wr_ne _ _ (by decide)]; exact htx.2 j hj, by rw [e_28, upd_ne _ _ (by decide), e_23, upd_eq]⟩ hxL (Nat.zero_le _)) (sh161 _) rfl rfl (gt_rc0 (by decide)) (Nat.le_of_ble_eq_true rfl) dX10_coast_34 (fun r_34 w_34 q_34 => ?_)
      obtain ⟨rfl, oS0, eS0, hTk0⟩ := q_34
      have exG : ∀ (K1 : gx_K) (w1 : gt_W), (∀ c, c ≠ 161 → c ≠ 163 → w1 c = w c) → (∀ q, q < 18 → q ≠ 11 → w1 161 q = w 161 q) → w1 161 11 = -1 → gx_mc (w1 163) K1 → (gx_ri x L).1.2.1 = 0 → (gx_ri x L).2 = K1 → gt_A l G RX10 "coast" cX10_coast 2 (some .int) (gt_rm 6 0 0) (gt_ZD G n (fun r w' => r = some (.int (aCoast x L)) ∧ gx_MZ w' (nCoast (K, (V, m), hs, cnt, im, sd, x, L, fp, Q)) ∧ ∀ a, a < 161 → w' a = w a)) (n, 0, 0) 64 [(0, .ref 161), (1, .int (nI 1))] [] (gt_enc w1) := by
        intro K1 w1 hO hE h11 hK1 hz hK9
        have hri := gx_ri_0 hxL.1 hxL.2 hz
        have kw1 : gx_KW K1 := by rw [← hK9]; exact hri.2
        have hfp9 : (gx_ri x L).1.2.2 = 0 := by rw [hri.1]
        refine ga_aload_n 0 dX10_coast_64 rfl ?_
        refine ga_iconst (nI 0) dX10_coast_65 (by decide) ?_
        refine gw_put 10 kp_X10_87 (sh161 _) (sh161 _) rfl rfl (Nat.le_of_ble_eq_true rfl) dX10_coast_66 (fun w_66 o_66 e_66 => ?_)
        refine ga_iload_n 1 dX10_coast_69 rfl ?_
        refine ga_if_ne 89 dX10_coast_70 (by decide) (fun c_70 => ?_) (fun c_70 => absurd (show ¬ nI 1 = 0 by decide) (not_not_intro c_70))
        refine ga_aload_n 0 dX10_coast_89 rfl ?_
        refine ga_get kf_X10_13 (sh161 _) rfl dX10_coast_90 ?_
        refine ga_iconst (nI 0) dX10_coast_93 (by decide) ?_
        refine ga_aload_n 0 dX10_coast_94 rfl ?_
        refine ga_get kf_X10_7 (sh161 _) rfl dX10_coast_95 ?_
        refine ga_iconst (nI 0) dX10_coast_98 (by decide) ?_
        refine ga_bipush (nI 44) dX10_coast_99 (by decide) ?_
        refine ga_S5 km_X10_68 kv_X10_copies (c_X10_copies (i := 0) (j := 0) (N := 44) sh163 sh162 (by decide) (by decide) (by decide) (by decide) (by decide)) (gt_rc0 (by decide)) (Nat.le_of_ble_eq_true rfl) dX10_coast_101 ?_
        generalize hw101 : gt_wr w_66 162 (gx_cp (w_66 163) (w_66 162) 0 0 44) = w_101
        have hM2 : gx_mc (w_101 162) K1 := gx_mc_eq kw1 (fun i hi => by
          rw [← hw101, gt_wr_eq]
          have h9 := gx_cp_in (f := w_66 163) (g := w_66 162) (i := 0) (j := 0) hi
          rw [Nat.zero_add] at h9
          rw [h9, o_66 163 (by decide)]) hK1
        refine ga_aload_n 0 dX10_coast_104 rfl ?_
        refine gd_V0 km_X10_57 kv_X10_begins c_X10_begins (sh161 _) rfl rfl (gt_rc0 (by decide)) (Nat.le_of_ble_eq_true rfl) dX10_coast_105 (fun r_105 w_105 q_105 => ?_)
        obtain ⟨rfl, oB, eB, b5, b13, b15, b17, b0, b1, hB⟩ := q_105
        have hV2 := hB K1 kw1 hM2
        have hM : gx_mc (w_105 162) K1 := by rw [oB 162 (by decide) (by decide) (by decide)]; exact hM2
        refine ga_aload_n 0 dX10_coast_108 rfl ?_
        refine ga_get kf_X10_7 (sh161 _) rfl dX10_coast_109 ?_
        refine ga_iconst (nI 0) dX10_coast_112 (by decide) ?_
        refine gm_c0 hM dX10_coast_113 ?_
        exact gd_iret dX10_coast_114 ⟨gv (by unfold aCoast; rw [if_pos hz, hK9]), (by
            rw [nCoast_g hz, hK9, hfp9]
            have ho : ∀ c, c ≠ 161 → c ≠ 162 → c ≠ 163 → c ≠ 164 → c ≠ 168 → w_105 c = w c := fun c h1 h2 h3 h4 h5 => by rw [oB c h1 h4 h5, ← hw101, gt_wr_ne _ _ h2, o_66 c h1]; exact hO c h1 h3
            have he : ∀ q, q < 18 → q ≠ 5 → q ≠ 10 → q ≠ 11 → q ≠ 13 → q ≠ 15 → q ≠ 17 → w_105 161 q = w 161 q := fun q h0 h1 h2 h3 h4 h5 h6 => by rw [eB q h1 h4 h5 h6, ← hw101, gt_wr_ne _ _ (by decide), e_66, upd_ne _ _ h2]; exact hE q h0 h3
            refine ⟨hM, hV2, ⟨b5, fun k hk => absurd hk (Nat.not_lt_zero k)⟩, fun i hi => ⟨?_, ?_, fun q => absurd (show (0 : Nat) = 1 from q) (by decide)⟩, ?_, ⟨?_, fun j hj => absurd hj (Nat.not_lt_zero j)⟩, ?_, ⟨⟨b13, b15, b17⟩, fun j hj => absurd hj (Nat.not_lt_zero j), fun j hj => absurd hj (Nat.not_lt_zero j), fun j hj => absurd hj (Nat.not_lt_zero j)⟩⟩
            · rw [ho 167 (by decide) (by decide) (by decide) (by decide) (by decide)]; exact (him i hi).1
            · rcases (show i = 0 ∨ i = 1 by omega) with rfl | rfl
              · exact b0
              · exact b1
            · rw [he 8 (by decide) (by decide) (by decide) (by decide) (by decide) (by decide) (by decide)]; exact hsd
            · rw [eB 10 (by decide) (by decide) (by decide) (by decide), ← hw101, gt_wr_ne _ _ (by decide), e_66, upd_eq]
            · rw [eB 11 (by decide) (by decide) (by decide) (by decide), ← hw101, gt_wr_ne _ _ (by decide), e_66, upd_ne _ _ (by decide)]; exact h11), fun a ha => by rw [oB a (by omega) (by omega) (by omega), ← hw101, gt_wr_ne _ _ (by omega), o_66 a (by omega)]; exact hO a (by omega) (by omega)⟩
      have exB : ∀ (s1 : gx_T) (w1 : gt_W), (∀ c, c ≠ 161 → c ≠ 163 → w1 c = w c) → (∀ q, q < 18 → q ≠ 11 → w1 161 q = w 161 q) → w1 161 11 = -1 → ¬ s1.2.1 = 0 → (gx_ri x L).1.2 = s1.2 → w1 161 23 = nI s1.2.1 → w1 161 19 = gx_seat s1.2.2 → gt_A l G RX10 "coast" cX10_coast 2 (some .int) (gt_rm 6 0 0) (gt_ZD G n (fun r w' => r = some (.int (aCoast x L)) ∧ gx_MZ w' (nCoast (K, (V, m), hs, cnt, im, sd, x, L, fp, Q)) ∧ ∀ a, a < 161 → w' a = w a)) (n, 0, 0) 64 [(0, .ref 161), (1, .int (nI 0))] [] (gt_enc w1) := by
        intro s1 w1 hO hE h11 hk hs9 h23 h19
        have hz : ¬ (gx_ri x L).1.2.1 = 0 := by rw [hs9]; exact hk
        refine ga_aload_n 0 dX10_coast_64 rfl ?_
        refine ga_iconst (nI 0) dX10_coast_65 (by decide) ?_
        refine gw_put 10 kp_X10_87 (sh161 _) (sh161 _) rfl rfl (Nat.le_of_ble_eq_true rfl) dX10_coast_66 (fun w_66 o_66 e_66 => ?_)
        refine ga_iload_n 1 dX10_coast_69 rfl ?_
        refine ga_if_ne 89 dX10_coast_70 (by decide) (fun c_70 => absurd nI_0 c_70) (fun c_70 => ?_)
        refine ga_aload_n 0 dX10_coast_73 rfl ?_
        refine ga_aload_n 0 dX10_coast_74 rfl ?_
        refine ga_get kf_X10_98 (sh161 _) (gv (show w_66 161 19 = gx_seat s1.2.2 by rw [e_66, upd_ne _ _ (by decide)]; exact h19)) dX10_coast_75 ?_
        refine gw_put 11 kp_X10_35 (sh161 _) (sh161 _) rfl rfl (Nat.le_of_ble_eq_true rfl) dX10_coast_78 (fun w_78 o_78 e_78 => ?_)
        refine ga_bipush ((-10)) dX10_coast_81 (by decide) ?_
        refine ga_aload_n 0 dX10_coast_83 rfl ?_
        refine ga_get kf_X10_114 (sh161 _) (gv (show w_78 161 23 = nI s1.2.1 by rw [e_78, upd_ne _ _ (by decide), e_66, upd_ne _ _ (by decide)]; exact h23)) dX10_coast_84 ?_
        refine ga_isub dX10_coast_87 ?_
        exact gd_iret dX10_coast_88 ⟨gv (by unfold aCoast; rw [if_neg hz, hs9]), (by
            rw [nCoast_k hz, hs9]
            have ho : ∀ c, c ≠ 161 → c ≠ 163 → w_78 c = w c := fun c h1 h2 => by rw [o_78 c h1, o_66 c h1]; exact hO c h1 h2
            have he : ∀ q, q < 18 → q ≠ 10 → q ≠ 11 → w_78 161 q = w 161 q := fun q h0 h1 h2 => by rw [e_78, upd_ne _ _ h2, e_66, upd_ne _ _ h1]; exact hE q h0 h2
            show gx_M w_78 K V m hs cnt im sd x 0 s1.2.2 Q
            have h := hX
            unfold gx_M gx_mn at h ⊢
            rw [ho 162 (by decide) (by decide), ho 164 (by decide) (by decide), ho 166 (by decide) (by decide), ho 167 (by decide) (by decide), ho 168 (by decide) (by decide), ho 170 (by decide) (by decide), ho 171 (by decide) (by decide), ho 172 (by decide) (by decide), he 5 (by decide) (by decide) (by decide), he 8 (by decide) (by decide) (by decide), he 13 (by decide) (by decide) (by decide), he 15 (by decide) (by decide) (by decide), he 17 (by decide) (by decide) (by decide)]
            exact ⟨h.1, h.2.1, h.2.2.1, h.2.2.2.1, h.2.2.2.2.1, ⟨by rw [e_78, upd_ne _ _ (by decide), e_66, upd_eq], fun j hj => absurd hj (Nat.not_lt_zero j)⟩, by rw [e_78, upd_eq], h.2.2.2.2.2.2.2⟩), fun a ha => by rw [o_78 a (by omega), o_66 a (by omega)]; exact hO a (by omega) (by omega)⟩
      have loop : ∀ f,  ∀ (s1 : gx_T) (K1 : gx_K) (w1 : gt_W), (∀ c, c ≠ 161 → c ≠ 163 → w1 c = w c) → (∀ q, q < 18 → q ≠ 11 → w1 161 q = w 161 q) → w1 161 11 = -1 → L ≤ s1.1 + f → gx_ri x L = gx_rr x L f s1 K1 → s1.2.1 = 0 → s1.1 ≤ L → gx_Kr K1 → gx_mc (w1 163) K1 → gx_Tk w1 x L (gx_skip x L s1.1) → gt_A l G RX10 "coast" cX10_coast 2 (some .int) (gt_rm 6 0 0) (gt_ZD G n (fun r w' => r = some (.int (aCoast x L)) ∧ gx_MZ w' (nCoast (K, (V, m), hs, cnt, im, sd, x, L, fp, Q)) ∧ ∀ a, a < 161 → w' a = w a)) (n, 0, 0) 37 [(0, .ref 161), (1, .int (nI 1))] [] (gt_enc w1) := by
        intro f
        induction f with
        | zero =>
          intro s1 K1 w1 hO hE h11 hfu hri hk hl hKr hK1 hTk
          have hnl : ¬ gx_skip x L s1.1 < L := by have := (gx_skip_b (x := x) (L := L) (L - s1.1) s1.1 (by omega)).1; omega
          refine ga_aload_n 0 dX10_coast_37 rfl ?_
          refine ga_get kf_X10_101 (sh161 _) (gv hTk.2.1) dX10_coast_38 ?_
          refine ga_if_lt 64 dX10_coast_41 (by decide) (fun c_41 => ?_) (fun c_41 => absurd ((gx_sv_neg hxL).mpr hnl) c_41)
          exact exG K1 _ hO hE h11 hK1 (by rw [hri, (gx_rr_end hk hnl _).1]; exact hk) (by rw [hri]; exact (gx_rr_end hk hnl _).2)
        | succ f ih =>
          intro s1 K1 w1 hO hE h11 hfu hri hk hl hKr hK1 hTk
          refine ga_aload_n 0 dX10_coast_37 rfl ?_
          refine ga_get kf_X10_101 (sh161 _) (gv hTk.2.1) dX10_coast_38 ?_
          refine ga_if_lt 64 dX10_coast_41 (by decide) (fun c_41 => ?_) (fun c_41 => ?_)
          · have hnl := (gx_sv_neg hxL).mp c_41
            exact exG K1 _ hO hE h11 hK1 (by rw [hri, (gx_rr_end hk hnl _).1]; exact hk) (by rw [hri]; exact (gx_rr_end hk hnl _).2)
          · have hlt : gx_skip x L s1.1 < L := Decidable.byContradiction fun q => c_41 ((gx_sv_neg hxL).mpr q)
            have hsi : gx_skip x L (gx_skip x L s1.1) = gx_skip x L s1.1 := gx_skip_i hl
            have hge := (gx_skip_b (x := x) (L := L) (L - s1.1) s1.1 (by omega)).1
            refine ga_iload_n 1 dX10_coast_44 rfl ?_
            refine ga_if_eq 64 dX10_coast_45 (by decide) (fun c_45 => absurd c_45 (by decide)) (fun c_45 => ?_)
            refine ga_aload_n 0 dX10_coast_48 rfl ?_
            refine gd_V0 km_X10_144 kv_X10_readsClause (c_X10_readsClause (s := (gx_skip x L s1.1, s1.2)) (K := K1) ⟨(hE 10 (by decide) (by decide)).trans htx.1, fun j hj => by rw [hO 169 (by decide) (by decide)]; exact htx.2 j hj⟩ hTk hxL hk hsi hlt hK1 hKr) (sh161 _) rfl rfl (gt_rc0 (by decide)) (Nat.le_of_ble_eq_true rfl) dX10_coast_49 (fun r_49 w_49 q_49 => ?_)
            obtain ⟨f9, ⟨rfl, ok, no⟩, hv⟩ := q_49
            have hri2 : gx_ri x L = gx_rr x L f (gx_cl1 x L (gx_skip x L s1.1, s1.2) K1) (gx_cl1K x L (gx_skip x L s1.1, s1.2) K1) := by
              rw [hri]
              show (if s1.2.1 = 0 then (if gx_skip x L s1.1 < L then _ else _) else _) = _
              rw [if_pos hk, if_pos hlt]
            have hO9 : ∀ c, c ≠ 161 → c ≠ 163 → w_49 c = w c := fun c h1 h2 => (f9.1 c h1 h2).trans (hO c h1 h2)
            have hE9 : ∀ q, q < 18 → q ≠ 11 → w_49 161 q = w 161 q := fun q h1 h2 => (f9.2 q h1).trans (hE q h1 h2)
            have h119 : w_49 161 11 = -1 := (f9.2 11 (by decide)).trans h11
            refine gs_istore_n [(0, _), (1, _)] dX10_coast_52 (by decide) rfl rfl ?_
            refine ga_iload_n 1 dX10_coast_53 rfl ?_
            refine ga_if_eq 37 dX10_coast_54 (by decide) (fun c_54 => ?_) (fun c_54 => ?_)
            · have k9 := gx_if1 c_54
              rw [if_neg k9]
              refine ga_take 2 ?_
              refine ga_aload_n 0 dX10_coast_37 rfl ?_
              refine ga_get kf_X10_101 (sh161 _) rfl dX10_coast_38 ?_
              refine ga_if_lt 64 dX10_coast_41 (by decide) (fun c_41 => ?_) (fun c_41 => ?_)
              · exact exB _ _ hO9 hE9 h119 k9 (by rw [hri2, gx_rr_bad k9]) (no k9).1 (no k9).2
              · refine ga_iload_n 1 dX10_coast_44 rfl ?_
                refine ga_if_eq 64 dX10_coast_45 (by decide) (fun c_45 => ?_) (fun c_45 => absurd nI_0 c_45)
                exact exB _ _ hO9 hE9 h119 k9 (by rw [hri2, gx_rr_bad k9]) (no k9).1 (no k9).2
            · have k9 := gx_if0 c_54
              rw [if_pos k9]
              have hadv := gx_cl1_adv (x := x) (L := L) (s := (gx_skip x L s1.1, s1.2)) (K := K1) (Nat.le_of_lt hlt) k9
              have hKr9 := gx_cl1_Kr (s := (gx_skip x L s1.1, s1.2)) hxL (Nat.le_of_lt hlt) hKr
              refine ga_aload_n 0 dX10_coast_57 rfl ?_
              refine gd_V0 km_X10_117 kv_X10_step (c_X10_step (a := (gx_cl1 x L (gx_skip x L s1.1, s1.2) K1).1) ⟨(hE9 10 (by decide) (by decide)).trans htx.1, fun j hj => by rw [hO9 169 (by decide) (by decide)]; exact htx.2 j hj, ok k9⟩ hxL hadv.2) (sh161 _) rfl rfl (gt_rc0 (by decide)) (Nat.le_of_ble_eq_true rfl) dX10_coast_58 (fun r_58 w_58 q_58 => ?_)
              obtain ⟨rfl, oS, eS, hTk9⟩ := q_58
              refine ga_goto 37 dX10_coast_61 (by decide) ?_
              exact ih _ _ _ (fun c h1 h2 => (oS c h1).trans (hO9 c h1 h2)) (fun q h1 h2 => (eS q (by omega)).trans (hE9 q h1 h2)) ((eS 11 (by decide)).trans h119) (by have := hadv.1; show L ≤ _; omega) hri2 k9 hadv.2 hKr9 (by rw [oS 163 (by decide)]; exact hv k9) hTk9
      exact loop 241 (0, 0, 0) (fun _ _ => 0) w_34 (fun c h1 h2 => by rw [oS0 c h1, o_28 c h1, o_23 c h1, gt_wr_ne _ _ h2]) (fun q h1 h2 => by rw [eS0 q (by omega), e_28, upd_ne _ _ h2, e_23, upd_ne _ _ (by omega), gt_wr_ne _ _ (by decide)]) (by rw [eS0 11 (by decide), e_28, upd_eq]) (by have := hxL.1; show L ≤ 0 + 241; omega) (gx_ri_rr hxL) rfl (Nat.zero_le _) (Or.inl ⟨rfl, rfl, rfl, rfl⟩) (by rw [oS0 163 (by decide), o_28 163 (by decide), o_23 163 (by decide), gt_wr_eq]; exact gx_mc_z0 _) hTk0
    | succ j ih =>
      intro t ht
      refine ga_iload_n 1 dX10_coast_2 rfl ?_
      refine ga_bipush (nI 44) dX10_coast_3 (by decide) ?_
      refine ga_icmp_ge 21 dX10_coast_5 (by decide) (fun c_5 => absurd c_5 (nI_ge (by omega) (by omega))) (fun c_5 => ?_)
      refine ga_aload_n 0 dX10_coast_8 rfl ?_
      refine ga_get kf_X10_13 (sh161 _) rfl dX10_coast_9 ?_
      refine ga_iload_n 1 dX10_coast_12 rfl ?_
      refine ga_iconst (nI 0) dX10_coast_13 (by decide) ?_
      refine ge_iast sh163 (gt_ixn (by omega)) dX10_coast_14 ?_
      refine gs_iincN 1 1 [(0, _), (1, _)] dX10_coast_15 rfl (by decide) (by decide) rfl rfl ?_
      refine ga_goto 2 dX10_coast_18 (by decide) ?_
      rw [gt_wr_eq, gt_wr_wr, gx_z0_s]
      exact ih (t + 1) (by omega)
  have h9 := loop 44 0 (by omega)
  rw [gx_z0_0, gt_wr_self] at h9
  exact h9
