/-! numbers and ends, by the reference -/
def gx_ro (r : Option Value) (w' : gt_W) (s : gx_T) : Prop := r = some (.int (if s.2.1 = 0 then nI 1 else nI 0)) ∧ (s.2.1 = 0 → w' 161 18 = nI s.1) ∧ (¬ s.2.1 = 0 → w' 161 23 = nI s.2.1 ∧ w' 161 19 = gx_seat s.2.2)
def gx_rf (w w' : gt_W) : Prop := (∀ c, c ≠ 161 → c ≠ 163 → w' c = w c) ∧ ∀ q, q < 18 → w' 161 q = w 161 q
theorem gx_rf_tr {w w1 w2 : gt_W} (h1 : gx_rf w w1) (h2 : gx_rf w1 w2) : gx_rf w w2 := ⟨fun c a b => (h2.1 c a b).trans (h1.1 c a b), fun q hq => (h2.2 q hq).trans (h1.2 q hq)⟩
theorem gx_ro_fail {w' : gt_W} {s s' : gx_T} (e : s'.2 = s.2) (hk : ¬ s.2.1 = 0) (h : w' 161 23 = nI s.2.1 ∧ w' 161 19 = gx_seat s.2.2) : gx_ro (some (.int (nI 0))) w' s' := by
  unfold gx_ro
  rw [e]
  exact ⟨by rw [if_neg hk], fun q => absurd q hk, fun _ => h⟩
theorem gx_ro_ok {w' : gt_W} {s : gx_T} (hk : s.2.1 = 0) (h : w' 161 18 = nI s.1) : gx_ro (some (.int (nI 1))) w' s := ⟨by rw [if_pos hk], fun _ => h, fun q => absurd hk q⟩
theorem gx_Rt_rf {w w' : gt_W} {x : Nat → Nat} {L a a' : Nat} (h : gx_Rt w x L a) (f : gx_rf w w') (e : w' 161 18 = nI a') : gx_Rt w' x L a' := gx_Rt_k h (f.2 10 (by decide)) (f.1 169 (by decide) (by decide)) e
theorem gx_sv_c {x : Nat → Nat} {L b c : Nat} (hx : gx_Tx x L) (hc : c < 48 ∨ 57 < c) (hc2 : c ≤ 255) : gx_sv x L b = nI c ↔ (b < L ∧ x b = c) := by
  unfold gx_sv
  by_cases hd : gx_dig x L b
  · rw [if_pos hd, nI_eq (by decide) (by omega)]
    exact ⟨fun q => by omega, fun q => by have := hd.2; omega⟩
  · rw [if_neg hd]
    unfold gx_hr
    by_cases h : b < L
    · rw [if_pos h, nI_eq (by have := hx.2 b h; omega) (by omega)]
      exact ⟨fun q => ⟨h, q⟩, fun q => q.2⟩
    · rw [if_neg h]
      exact ⟨fun q => absurd (show nI c < 0 by rw [← q]; decide) (nI_pos (by omega)), fun q => absurd q.1 h⟩
theorem gx_sv_d {x : Nat → Nat} {L b : Nat} (hx : gx_Tx x L) : gx_sv x L b = nI 48 ↔ gx_dig x L b := by
  unfold gx_sv
  by_cases hd : gx_dig x L b
  · rw [if_pos hd]; exact ⟨fun _ => hd, fun _ => rfl⟩
  · rw [if_neg hd]
    unfold gx_hr
    by_cases h : b < L
    · rw [if_pos h, nI_eq (by have := hx.2 b h; omega) (by decide)]
      exact ⟨fun q => ⟨h, by omega⟩, fun q => absurd q hd⟩
    · rw [if_neg h]
      exact ⟨fun q => absurd q (by decide), fun q => absurd q.1 h⟩
theorem gx_nx_c {x : Nat → Nat} {L b c : Nat} (hc : c < 48 ∨ 57 < c) (h : b < L ∧ x b = c) : gx_nx x L b = b + 1 := by
  unfold gx_nx
  rw [if_neg (fun q => by have := q.2; omega), if_pos h.1]
theorem gx_num_L {x : Nat → Nat} {L : Nat} {s : gx_T} (h : s.1 ≤ L) (lo hi : Nat) : (gx_num x L s lo hi).1 ≤ L := by
  have h1 := (gx_skip_b (x := x) (L := L) (L - s.1) s.1 (by omega)).2
  have h2 : gx_ne x L s ≤ L := (gx_digs_b (x := x) (L := L) (L - gx_skip x L s.1) (gx_skip x L s.1) (by omega)).2
  unfold gx_num gx_fl
  split
  · split <;> exact h2
  · split
    · split <;> exact h2
    · exact h2
theorem gx_num_ge {x : Nat → Nat} {L : Nat} {s : gx_T} (h : s.1 ≤ L) (lo hi : Nat) : s.1 ≤ (gx_num x L s lo hi).1 := by
  have h1 := (gx_skip_b (x := x) (L := L) (L - s.1) s.1 (by omega))
  have h2 : gx_skip x L s.1 ≤ gx_ne x L s := (gx_digs_b (x := x) (L := L) (L - gx_skip x L s.1) (gx_skip x L s.1) (by omega)).1
  have h3 : s.1 ≤ gx_ne x L s := by omega
  unfold gx_num gx_fl
  split
  · split <;> exact h3
  · split
    · split <;> exact h3
    · exact h3
theorem gx_sgn_at {x : Nat → Nat} {L c : Nat} {s : gx_T} (hp : gx_skip x L s.1 = s.1) (hlt : s.1 < L) (hc : x s.1 = c) : gx_sgn x L s c = (s.1 + 1, s.2) := by
  unfold gx_sgn
  rw [hp, if_pos ⟨hlt, hc⟩]
theorem gx_sgn_ge {x : Nat → Nat} {L c : Nat} {s : gx_T} (h : s.1 ≤ L) : s.1 ≤ (gx_sgn x L s c).1 ∧ (gx_sgn x L s c).1 ≤ L := by
  have h1 := (gx_skip_b (x := x) (L := L) (L - s.1) s.1 (by omega))
  unfold gx_sgn gx_fl
  split
  · rename_i q; exact ⟨Nat.le_succ_of_le h1.1, q.1⟩
  · split <;> exact h1
set_option maxRecDepth 100000 in
set_option maxHeartbeats 4000000 in
theorem c_X10_fails {l : Launch} {G : gt_G} {n : Nat} {w : gt_W} {v : Int32} : gt_D l G yX10_fails cX10_fails 2 (some .boolean) 1 n [.ref 161, .int v] w (fun r w' => r = some (.int (nI 0)) ∧ (∀ c, c ≠ 161 → w' c = w c) ∧ w' 161 = upd (w 161) 23 v) := by
  refine gt_D_of (own := RX10) (nm := "fails") rfl rfl (by decide +kernel) (Nat.le_of_ble_eq_true rfl) ?_
  show gt_A _ _ _ _ _ _ _ _ _ _ _ [(0, .ref 161), (1, .int v)] _ _
  refine ga_aload_n 0 dX10_fails_0 rfl ?_
  refine ga_iload_n 1 dX10_fails_1 rfl ?_
  refine gw_put 23 kp_X10_114 (sh161 _) (sh161 _) rfl rfl (Nat.le_of_ble_eq_true rfl) dX10_fails_2 (fun w_2 o_2 e_2 => ?_)
  refine ga_iconst (nI 0) dX10_fails_5 (by decide) ?_
  exact gd_zret dX10_fails_6 (by decide) ⟨rfl, o_2, e_2⟩
theorem gx_nv_999 {x : Nat → Nat} {L : Nat} {s : gx_T} (hx : gx_Tx x L) (ha : s.1 ≤ L) : gx_nv x L s ≤ 999 := gx_nv_le (s := (s.1, 0, 0)) ⟨hx.1, ha, Nat.zero_le _, Nat.zero_le _, hx.2⟩
set_option maxRecDepth 100000 in
set_option maxHeartbeats 4000000 in
theorem c_X10_number {l : Launch} {G : gt_G} {n : Nat} {w : gt_W} {x : Nat → Nat} {L : Nat} {s : gx_T} (hR : gx_Rt w x L s.1) (hx : gx_Tx x L) (ha : s.1 ≤ L) (hs : s.2.1 = 0) {pl lo hi : Nat} (hpl : pl < 44) (hlo : lo ≤ 1000) (hhi : hi ≤ 1000) : gt_D l G yX10_number cX10_number 4 (some .boolean) 3 n [.ref 161, .int (nI pl), .int (nI lo), .int (nI hi)] w (fun r w' => gx_rf w w' ∧ gx_ro r w' (gx_num x L s lo hi) ∧ ((gx_num x L s lo hi).2.1 = 0 → w' 163 = upd (w 163) pl (nI (gx_nv x L s)))) := by
  obtain ⟨b, hb⟩ : ∃ b, b = gx_skip x L s.1 := ⟨_, rfl⟩
  have hbL : b ≤ L := by rw [hb]; exact (gx_skip_b (L - s.1) s.1 (by omega)).2
  refine gt_D_of (own := RX10) (nm := "number") rfl rfl (by decide +kernel) (Nat.le_of_ble_eq_true rfl) ?_
  show gt_A _ _ _ _ _ _ _ _ _ _ _ [(0, .ref 161), (1, .int (nI pl)), (2, .int (nI lo)), (3, .int (nI hi))] _ _
  refine ga_aload_n 0 dX10_number_0 rfl ?_
  refine gd_V0 km_X10_117 kv_X10_step (c_X10_step hR hx ha) (sh161 _) rfl rfl (gt_rc0 (by decide)) (Nat.le_of_ble_eq_true rfl) dX10_number_1 (fun r_1 w_1 q_1 => ?_)
  obtain ⟨rfl, oS, eS, hTk⟩ := q_1
  rw [← hb] at hTk
  refine ga_aload_n 0 dX10_number_4 rfl ?_
  refine ga_get kf_X10_101 (sh161 _) (gv hTk.2.1) dX10_number_5 ?_
  refine ga_bipush (nI 48) dX10_number_8 (by decide) ?_
  refine ga_icmp_eq 19 dX10_number_10 (by decide) (fun c_10 => ?_) (fun c_10 => ?_)
  · have hd := (gx_sv_d hx).mp c_10
    have hdg := hTk.2.2.2 hd
    have hge : b + 1 ≤ gx_digs x L b := by rw [gx_digs_t hd]; exact (gx_digs_b (L - (b + 1)) (b + 1) (by have := hd.1; omega)).1
    have hle : gx_digs x L b ≤ L := (gx_digs_b (L - b) b (by omega)).2
    have hne : ¬ gx_ne x L s = gx_skip x L s.1 := by unfold gx_ne; rw [← hb]; omega
    have env : gx_vl x b (gx_digs x L b - b) = gx_nv x L s := by unfold gx_nv gx_ne; rw [← hb]
    have een : gx_digs x L b - b = gx_ne x L s - gx_skip x L s.1 := by unfold gx_ne; rw [← hb]
    have hnv : gx_nv x L s ≤ 999 := gx_nv_999 hx ha
    rw [env, een] at hdg
    refine ga_aload_n 0 dX10_number_19 rfl ?_
    refine ga_get kf_X10_104 (sh161 _) (gv hdg.1) dX10_number_20 ?_
    refine ga_iconst (nI 3) dX10_number_23 (by decide) ?_
    refine ga_icmp_gt 42 dX10_number_24 (by decide) (fun c_24 => ?_) (fun c_24 => ?_)
    · have hbad : 3 < gx_ne x L s - gx_skip x L s.1 ∨ gx_nv x L s < lo ∨ hi < gx_nv x L s := Or.inl ((nI_ltI (by decide) (by have := hx.1; omega)).mp c_24)
      have eN : gx_num x L s lo hi = (gx_ne x L s, 2, b + 1) := by unfold gx_num; rw [if_neg hne, if_pos hbad, gx_fl_g (s := (gx_ne x L s, s.2)) hs, hb]
      refine ga_aload_n 0 dX10_number_42 rfl ?_
      refine ga_iconst (nI 2) dX10_number_43 (by decide) ?_
      refine gd_V1 km_X10_120 kv_X10_fails c_X10_fails (sh161 _) rfl rfl (gt_rc0 (by decide)) (Nat.le_of_ble_eq_true rfl) dX10_number_44 (fun r_44 w_44 q_44 => ?_)
      obtain ⟨rfl, oF, eF⟩ := q_44
      exact gd_zret dX10_number_47 (by decide) ⟨⟨fun c h1 h2 => by rw [oF c h1]; exact oS c h1, fun q hq => by rw [eF, upd_ne _ _ (by omega)]; exact eS q (by omega)⟩, gx_ro_fail (s := (gx_num x L s lo hi)) rfl (by simp [eN]) (by rw [eN]; exact ⟨by rw [eF, upd_eq], by rw [eF, upd_ne _ _ (by decide)]; exact hTk.1.trans (gx_seat_s b).symm⟩), fun q => absurd q (by simp [eN])⟩
    · have h3 : ¬ 3 < gx_ne x L s - gx_skip x L s.1 := fun q => c_24 (nI_lt q (by have := hx.1; omega))
      refine ga_aload_n 0 dX10_number_27 rfl ?_
      refine ga_get kf_X10_107 (sh161 _) (gv hdg.2) dX10_number_28 ?_
      refine ga_i2l dX10_number_31 ?_
      refine ga_iload_n 2 dX10_number_32 rfl ?_
      refine ga_i2l dX10_number_33 ?_
      refine ga_iload_n 3 dX10_number_34 rfl ?_
      refine ga_i2l dX10_number_35 ?_
      refine ga_S3 km_X10_64 kv_X10_in (c_X10_in (x := nI (gx_nv x L s)) (a := nI lo) (b := nI hi) rfl rfl rfl) (gt_rc0 (by decide)) (Nat.le_of_ble_eq_true rfl) dX10_number_36 ?_
      refine ga_if_ne 48 dX10_number_39 (by decide) (fun c_39 => ?_) (fun c_39 => ?_)
      · have hin : nI lo ≤ nI (gx_nv x L s) ∧ nI (gx_nv x L s) ≤ nI hi := Decidable.byContradiction fun q => c_39 (by unfold gx_wi; rw [if_neg q]; exact nI_0)
        have hok : ¬ (3 < gx_ne x L s - gx_skip x L s.1 ∨ gx_nv x L s < lo ∨ hi < gx_nv x L s) := by
          have q1 := (nI_leI (by omega) (by omega)).mp hin.1
          have q2 := (nI_leI (by omega) (by omega)).mp hin.2
          omega
        have eN : gx_num x L s lo hi = (gx_ne x L s, s.2) := by unfold gx_num; rw [if_neg hne, if_neg hok]
        refine ga_aload_n 0 dX10_number_48 rfl ?_
        refine ga_get kf_X10_13 (sh161 _) rfl dX10_number_49 ?_
        refine ga_iload_n 1 dX10_number_52 rfl ?_
        refine ga_aload_n 0 dX10_number_53 rfl ?_
        refine ga_get kf_X10_107 (sh161 _) (gv hdg.2) dX10_number_54 ?_
        refine gw_iast (sh163) (gt_ixn hpl) dX10_number_57 (fun w_57 o_57 e_57 => ?_)
        refine ga_iconst (nI 1) dX10_number_58 (by decide) ?_
        exact gd_zret dX10_number_59 (by decide) ⟨⟨fun c h1 h2 => by rw [o_57 c h2]; exact oS c h1, fun q hq => by rw [o_57 161 (by decide)]; exact eS q (by omega)⟩, gx_ro_ok (s := (gx_num x L s lo hi)) (by rw [eN]; exact hs) (by rw [eN, o_57 161 (by decide), hTk.2.2.1]; unfold gx_nx gx_ne; rw [if_pos hd, ← hb]), fun _ => by rw [e_57, oS 163 (by decide)]⟩
      · have hbad : 3 < gx_ne x L s - gx_skip x L s.1 ∨ gx_nv x L s < lo ∨ hi < gx_nv x L s := Or.inr (by
          rcases Nat.lt_or_ge (gx_nv x L s) lo with q | q
          · exact Or.inl q
          · rcases Nat.lt_or_ge hi (gx_nv x L s) with q2 | q2
            · exact Or.inr q2
            · exact absurd c_39 (by unfold gx_wi; rw [if_pos ⟨nI_le q (by omega), nI_le q2 (by omega)⟩]; decide))
        have eN : gx_num x L s lo hi = (gx_ne x L s, 2, b + 1) := by unfold gx_num; rw [if_neg hne, if_pos hbad, gx_fl_g (s := (gx_ne x L s, s.2)) hs, hb]
        refine ga_aload_n 0 dX10_number_42 rfl ?_
        refine ga_iconst (nI 2) dX10_number_43 (by decide) ?_
        refine gd_V1 km_X10_120 kv_X10_fails c_X10_fails (sh161 _) rfl rfl (gt_rc0 (by decide)) (Nat.le_of_ble_eq_true rfl) dX10_number_44 (fun r_44 w_44 q_44 => ?_)
        obtain ⟨rfl, oF, eF⟩ := q_44
        exact gd_zret dX10_number_47 (by decide) ⟨⟨fun c h1 h2 => by rw [oF c h1]; exact oS c h1, fun q hq => by rw [eF, upd_ne _ _ (by omega)]; exact eS q (by omega)⟩, gx_ro_fail (s := (gx_num x L s lo hi)) rfl (by simp [eN]) (by rw [eN]; exact ⟨by rw [eF, upd_eq], by rw [eF, upd_ne _ _ (by decide)]; exact hTk.1.trans (gx_seat_s b).symm⟩), fun q => absurd q (by simp [eN])⟩
  · have hnd : ¬ gx_dig x L b := fun q => c_10 ((gx_sv_d hx).mpr q)
    have hne : gx_ne x L s = gx_skip x L s.1 := by unfold gx_ne; rw [← hb]; exact gx_digs_f hbL hnd
    have eN : gx_num x L s lo hi = (gx_ne x L s, 1, b + 1) := by unfold gx_num; rw [if_pos hne, gx_fl_g (s := (gx_ne x L s, s.2)) hs, hb]
    refine ga_aload_n 0 dX10_number_13 rfl ?_
    refine ga_iconst (nI 1) dX10_number_14 (by decide) ?_
    refine gd_V1 km_X10_120 kv_X10_fails c_X10_fails (sh161 _) rfl rfl (gt_rc0 (by decide)) (Nat.le_of_ble_eq_true rfl) dX10_number_15 (fun r_15 w_15 q_15 => ?_)
    obtain ⟨rfl, oF, eF⟩ := q_15
    exact gd_zret dX10_number_18 (by decide) ⟨⟨fun c h1 h2 => by rw [oF c h1]; exact oS c h1, fun q hq => by rw [eF, upd_ne _ _ (by omega)]; exact eS q (by omega)⟩, gx_ro_fail (s := (gx_num x L s lo hi)) rfl (by simp [eN]) (by rw [eN]; exact ⟨by rw [eF, upd_eq], by rw [eF, upd_ne _ _ (by decide)]; exact hTk.1.trans (gx_seat_s b).symm⟩), fun q => absurd q (by simp [eN])⟩
set_option maxRecDepth 100000 in
set_option maxHeartbeats 4000000 in
theorem c_X10_ends {l : Launch} {G : gt_G} {n : Nat} {w : gt_W} {x : Nat → Nat} {L : Nat} {s : gx_T} (hR : gx_Rt w x L s.1) (hx : gx_Tx x L) (ha : s.1 ≤ L) (hs : s.2.1 = 0) : gt_D l G yX10_ends cX10_ends 1 (some .boolean) 3 n [.ref 161] w (fun r w' => gx_rf w w' ∧ gx_ro r w' (gx_sgn x L s 59) ∧ w' 163 = w 163) := by
  obtain ⟨b, hb⟩ : ∃ b, b = gx_skip x L s.1 := ⟨_, rfl⟩
  have hbL : b ≤ L := by rw [hb]; exact (gx_skip_b (L - s.1) s.1 (by omega)).2
  refine gt_D_of (own := RX10) (nm := "ends") rfl rfl (by decide +kernel) (Nat.le_of_ble_eq_true rfl) ?_
  show gt_A _ _ _ _ _ _ _ _ _ _ _ [(0, .ref 161)] _ _
  refine ga_aload_n 0 dX10_ends_0 rfl ?_
  refine gd_V0 km_X10_117 kv_X10_step (c_X10_step hR hx ha) (sh161 _) rfl rfl (gt_rc0 (by decide)) (Nat.le_of_ble_eq_true rfl) dX10_ends_1 (fun r_1 w_1 q_1 => ?_)
  obtain ⟨rfl, oS, eS, hTk⟩ := q_1
  rw [← hb] at hTk
  refine ga_aload_n 0 dX10_ends_4 rfl ?_
  refine ga_get kf_X10_101 (sh161 _) (gv hTk.2.1) dX10_ends_5 ?_
  refine ga_bipush (nI 59) dX10_ends_8 (by decide) ?_
  refine ga_icmp_eq 21 dX10_ends_10 (by decide) (fun c_10 => ?_) (fun c_10 => ?_)
  · have hy := (gx_sv_c hx (Or.inr (by decide)) (by decide)).mp c_10
    have eE : gx_sgn x L s 59 = (b + 1, s.2) := by unfold gx_sgn; rw [← hb, if_pos hy]
    have hend : gx_ro (some (.int (nI 1))) w_1 (gx_sgn x L s 59) := gx_ro_ok (by rw [eE]; exact hs) (by rw [eE, hTk.2.2.1, gx_nx_c (Or.inr (by decide)) hy])
    refine ga_iconst (nI 1) dX10_ends_21 (by decide) ?_
    refine ga_goto 26 dX10_ends_22 (by decide) ?_
    first | exact gd_zret dX10_ends_26 (by decide) ⟨⟨fun c h1 _ => oS c h1, fun q hq => eS q (by omega)⟩, hend, oS 163 (by decide)⟩ | exact gd_zret dX10_ends_26 (by decide) ⟨⟨fun c h1 h2 => by rw [oF c h1]; exact oS c h1, fun q hq => by rw [eF, upd_ne _ _ (by omega)]; exact eS q (by omega)⟩, gx_ro_fail (s := (gx_sgn x L s 59)) rfl (by simp [eE]) (by rw [eE]; exact ⟨by rw [eF, upd_eq], by rw [eF, upd_ne _ _ (by decide)]; exact hTk.1.trans (gx_seat_s b).symm⟩), by rw [oF 163 (by decide)]; exact oS 163 (by decide)⟩
  · have hn : ¬ (b < L ∧ x b = 59) := fun q => c_10 ((gx_sv_c hx (Or.inr (by decide)) (by decide)).mpr q)
    have eE : gx_sgn x L s 59 = (b, 1, b + 1) := by unfold gx_sgn; rw [← hb, if_neg hn, gx_fl_g (s := (b, s.2)) hs]
    refine ga_aload_n 0 dX10_ends_13 rfl ?_
    refine ga_iconst (nI 1) dX10_ends_14 (by decide) ?_
    refine gd_V1 km_X10_120 kv_X10_fails c_X10_fails (sh161 _) rfl rfl (gt_rc0 (by decide)) (Nat.le_of_ble_eq_true rfl) dX10_ends_15 (fun r_15 w_15 q_15 => ?_)
    obtain ⟨rfl, oF, eF⟩ := q_15
    refine ga_if_eq 25 dX10_ends_18 (by decide) (fun c_18 => ?_) (fun c_18 => absurd nI_0 c_18)
    refine ga_iconst (nI 0) dX10_ends_25 (by decide) ?_
    first | exact gd_zret dX10_ends_26 (by decide) ⟨⟨fun c h1 _ => oS c h1, fun q hq => eS q (by omega)⟩, hend, oS 163 (by decide)⟩ | exact gd_zret dX10_ends_26 (by decide) ⟨⟨fun c h1 h2 => by rw [oF c h1]; exact oS c h1, fun q hq => by rw [eF, upd_ne _ _ (by omega)]; exact eS q (by omega)⟩, gx_ro_fail (s := (gx_sgn x L s 59)) rfl (by simp [eE]) (by rw [eE]; exact ⟨by rw [eF, upd_eq], by rw [eF, upd_ne _ _ (by decide)]; exact hTk.1.trans (gx_seat_s b).symm⟩), by rw [oF 163 (by decide)]; exact oS 163 (by decide)⟩
