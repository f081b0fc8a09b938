/-! THE TEXT, by the reference -/
def gx_Rt (w : gt_W) (x : Nat → Nat) (L a : Nat) : Prop := w 161 10 = nI L ∧ (∀ j, j < L → w 169 j = nI (x j)) ∧ w 161 18 = nI a
abbrev gx_Tx (x : Nat → Nat) (L : Nat) : Prop := L ≤ 240 ∧ ∀ j, j < L → x j ≤ 255
def gx_hr (x : Nat → Nat) (L a : Nat) : Int32 := if a < L then nI (x a) else -1
abbrev gx_dig (x : Nat → Nat) (L a : Nat) : Prop := a < L ∧ 48 ≤ x a ∧ x a ≤ 57
theorem gx_wd {x : Nat → Nat} {L a : Nat} (hx : gx_Tx x L) : gx_wi (gx_hr x L a) (nI 48) (nI 57) = 0 ↔ ¬ gx_dig x L a := by
  unfold gx_wi gx_hr
  by_cases h : a < L
  · have := hx.2 a h
    rw [if_pos h]
    by_cases q : 48 ≤ x a ∧ x a ≤ 57
    · rw [if_pos ⟨nI_le q.1 (by omega), nI_le q.2 (by omega)⟩]
      exact ⟨fun z => absurd z (by decide), fun z => absurd ⟨h, q⟩ z⟩
    · rw [if_neg (fun z => q ⟨(nI_leI (by omega) (by omega)).mp z.1, (nI_leI (by omega) (by omega)).mp z.2⟩)]
      exact ⟨fun _ z => q z.2, fun _ => nI_0⟩
  · rw [if_neg h, if_neg (by decide)]
    exact ⟨fun _ z => h z.1, fun _ => nI_0⟩
/-- the token that begins at b: its sign, the place behind it -/
def gx_sv (x : Nat → Nat) (L b : Nat) : Int32 := if gx_dig x L b then nI 48 else gx_hr x L b
def gx_nx (x : Nat → Nat) (L b : Nat) : Nat := if gx_dig x L b then gx_digs x L b else if b < L then b + 1 else b
def gx_Tk (w : gt_W) (x : Nat → Nat) (L b : Nat) : Prop := w 161 19 = nI b ∧ w 161 20 = gx_sv x L b ∧ w 161 18 = nI (gx_nx x L b) ∧ (gx_dig x L b → w 161 21 = nI (gx_digs x L b - b) ∧ w 161 22 = nI (gx_vl x b (gx_digs x L b - b)))
theorem gx_digs_t {x : Nat → Nat} {L a : Nat} (h : gx_dig x L a) : gx_digs x L a = gx_digs x L (a + 1) := by rw [gx_digs_lt h.1, if_pos h.2]
theorem gx_digs_f {x : Nat → Nat} {L a : Nat} (ha : a ≤ L) (h : ¬ gx_dig x L a) : gx_digs x L a = a := by
  by_cases q : a < L
  · rw [gx_digs_lt q, if_neg (fun z => h ⟨q, z⟩)]
  · rw [show a = L by omega, gx_digs_L]
theorem gx_Rt_k {w w' : gt_W} {x : Nat → Nat} {L a a' : Nat} (h : gx_Rt w x L a) (e : w' 161 10 = w 161 10) (e2 : w' 169 = w 169) (e3 : w' 161 18 = nI a') : gx_Rt w' x L a' := ⟨e.trans h.1, fun j hj => by rw [e2]; exact h.2.1 j hj, e3⟩
set_option maxRecDepth 100000 in
set_option maxHeartbeats 4000000 in
theorem c_X10_here {l : Launch} {G : gt_G} {n : Nat} {w : gt_W} {x : Nat → Nat} {L a : Nat} (hR : gx_Rt w x L a) (hx : gx_Tx x L) (ha : a ≤ L) : gt_C l G yX10_here cX10_here 1 (some .int) 1 0 0 n [.ref 161] (gt_enc w) (some (.int (gx_hr x L a))) (gt_enc (w)) := by
  refine gt_C_of (own := RX10) (nm := "here") rfl rfl (by decide +kernel) (Nat.le_of_ble_eq_true rfl) ?_
  show gt_A _ _ _ _ _ _ _ _ _ _ _ [(0, .ref 161)] _ _
  refine ga_aload_n 0 dX10_here_0 rfl ?_
  refine ga_get kf_X10_91 (sh161 _) (gv hR.2.2) dX10_here_1 ?_
  refine ga_aload_n 0 dX10_here_4 rfl ?_
  refine ga_get kf_X10_87 (sh161 _) (gv hR.1) dX10_here_5 ?_
  refine ga_icmp_ge 23 dX10_here_8 (by decide) (fun c_8 => ?_) (fun c_8 => ?_)
  · have hz : ¬ a < L := by have := (nI_leI (by have := hx.1; omega) (by have := hx.1; omega)).mp c_8; omega
    refine ga_iconst ((-1)) dX10_here_23 (by decide) ?_
    exact ga_iret dX10_here_24 (gv (by unfold gx_hr; first | exact if_pos hz | exact if_neg hz)) rfl
  · have hz : a < L := Nat.not_le.mp (fun q => c_8 (nI_le q (by have := hx.1; omega)))
    refine ga_aload_n 0 dX10_here_11 rfl ?_
    refine ga_get kf_X10_32 (sh161 _) rfl dX10_here_12 ?_
    refine ga_aload_n 0 dX10_here_15 rfl ?_
    refine ga_get kf_X10_91 (sh161 _) (gv hR.2.2) dX10_here_16 ?_
    refine ge_ialdE sh169 (gt_ixn (by have := hx.1; omega)) (hR.2.1 a hz) dX10_here_19 ?_
    refine ga_goto 24 dX10_here_20 (by decide) ?_
    exact ga_iret dX10_here_24 (gv (by unfold gx_hr; first | exact if_pos hz | exact if_neg hz)) rfl
set_option maxRecDepth 100000 in
set_option maxHeartbeats 4000000 in
theorem c_X10_step {l : Launch} {G : gt_G} {n : Nat} {w : gt_W} {x : Nat → Nat} {L a : Nat} (hR : gx_Rt w x L a) (hx : gx_Tx x L) (ha : a ≤ L) : gt_D l G yX10_step cX10_step 1 none 2 n [.ref 161] w (fun r w' => r = none ∧ (∀ c, c ≠ 161 → w' c = w c) ∧ (∀ q, (q < 18 ∨ 23 ≤ q) → w' 161 q = w 161 q) ∧ gx_Tk w' x L (gx_skip x L a)) := by
  obtain ⟨b, hb⟩ : ∃ b, b = gx_skip x L a := ⟨_, rfl⟩
  have hbL : b ≤ L := by rw [hb]; exact (gx_skip_b (L - a) a (by omega)).2
  rw [← hb]
  refine gt_D_of (own := RX10) (nm := "step") rfl rfl (by decide +kernel) (Nat.le_of_ble_eq_true rfl) ?_
  show gt_A _ _ _ _ _ _ _ _ _ _ _ [(0, .ref 161)] _ _
  have ex : ∀ w1 : gt_W, (∀ q, (q < 18 ∨ 23 ≤ q) → w1 161 q = w 161 q) → (∀ c, c ≠ 161 → w1 c = w c) → w1 161 18 = nI b → gt_A l G RX10 "step" cX10_step 1 none (gt_rm 2 0 0) (gt_ZD G n (fun r w' => r = none ∧ (∀ c, c ≠ 161 → w' c = w c) ∧ (∀ q, (q < 18 ∨ 23 ≤ q) → w' 161 q = w 161 q) ∧ gx_Tk w' x L b)) (n, 0, 0) 22 [(0, .ref 161)] [] (gt_enc w1) := by
    intro w1 hE hO h18
    have hR1 : gx_Rt w1 x L b := ⟨(hE 10 (by decide)).trans hR.1, fun j hj => by rw [hO 169 (by decide)]; exact hR.2.1 j hj, h18⟩
    refine ga_aload_n 0 dX10_step_22 rfl ?_
    refine ga_aload_n 0 dX10_step_23 rfl ?_
    refine ga_get kf_X10_91 (sh161 _) (gv h18) dX10_step_24 ?_
    refine gw_put 19 kp_X10_98 (sh161 _) (sh161 _) rfl rfl (Nat.le_of_ble_eq_true rfl) dX10_step_27 (fun w_27 o_27 e_27 => ?_)
    have hR2 : gx_Rt w_27 x L b := gx_Rt_k hR1 (by rw [e_27, upd_ne _ _ (by decide)]) (o_27 169 (by decide)) (by rw [e_27, upd_ne _ _ (by decide)]; exact h18)
    refine ga_aload_n 0 dX10_step_30 rfl ?_
    refine ga_aload_n 0 dX10_step_31 rfl ?_
    refine ga_V0 km_X10_94 kv_X10_here (c_X10_here hR2 hx hbL) (sh161 _) rfl rfl (gt_rc0 (by decide)) (Nat.le_of_ble_eq_true rfl) dX10_step_32 ?_
    refine gw_put 20 kp_X10_101 (sh161 _) (sh161 _) rfl rfl (Nat.le_of_ble_eq_true rfl) dX10_step_35 (fun w_35 o_35 e_35 => ?_)
    refine ga_aload_n 0 dX10_step_38 rfl ?_
    refine ga_iconst (nI 0) dX10_step_39 (by decide) ?_
    refine gw_put 21 kp_X10_104 (sh161 _) (sh161 _) rfl rfl (Nat.le_of_ble_eq_true rfl) dX10_step_40 (fun w_40 o_40 e_40 => ?_)
    refine ga_aload_n 0 dX10_step_43 rfl ?_
    refine ga_iconst (nI 0) dX10_step_44 (by decide) ?_
    refine gw_put 22 kp_X10_107 (sh161 _) (sh161 _) rfl rfl (Nat.le_of_ble_eq_true rfl) dX10_step_45 (fun w_45 o_45 e_45 => ?_)
    refine ga_aload_n 0 dX10_step_48 rfl ?_
    refine ga_get kf_X10_101 (sh161 _) (gv (show w_45 161 20 = gx_hr x L b by rw [e_45, upd_ne _ _ (by decide), e_40, upd_ne _ _ (by decide), e_35, upd_eq])) dX10_step_49 ?_
    refine ga_i2l dX10_step_52 ?_
    refine ga_ldc2_w kc_X10_110 dX10_step_53 ?_
    refine ga_ldc2_w kc_X10_112 dX10_step_56 ?_
    refine ga_S3 km_X10_64 kv_X10_in (c_X10_in (x := gx_hr x L b) (a := nI 48) (b := nI 57) rfl (by decide) (by decide)) (gt_rc0 (by decide)) (Nat.le_of_ble_eq_true rfl) dX10_step_59 ?_
    refine ga_if_ne 87 dX10_step_62 (by decide) (fun c_62 => ?_) (fun c_62 => ?_)
    · have hdb : gx_dig x L b := Decidable.byContradiction fun q => c_62 ((gx_wd hx).mpr q)
      refine ga_aload_n 0 dX10_step_87 rfl ?_
      refine ga_bipush (nI 48) dX10_step_88 (by decide) ?_
      refine gw_put 20 kp_X10_101 (sh161 _) (sh161 _) rfl rfl (Nat.le_of_ble_eq_true rfl) dX10_step_90 (fun w_90 o_90 e_90 => ?_)
      have loop2 : ∀ j t, t + j = L →  ∀ w1 : gt_W, (∀ q, (q < 18 ∨ 23 ≤ q) → w1 161 q = w 161 q) → (∀ c, c ≠ 161 → w1 c = w c) → w1 161 19 = nI b → w1 161 20 = nI 48 → w1 161 18 = nI t → b ≤ t → w1 161 21 = nI (t - b) → w1 161 22 = nI (gx_vl x b (t - b)) → gx_digs x L t = gx_digs x L b → (∀ i, b ≤ i → i < t → 48 ≤ x i ∧ x i ≤ 57) → gt_A l G RX10 "step" cX10_step 1 none (gt_rm 2 0 0) (gt_ZD G n (fun r w' => r = none ∧ (∀ c, c ≠ 161 → w' c = w c) ∧ (∀ q, (q < 18 ∨ 23 ≤ q) → w' 161 q = w 161 q) ∧ gx_Tk w' x L b)) (n, 0, 0) 93 [(0, .ref 161)] [] (gt_enc w1) := by
        intro j
        induction j with
        | zero =>
          intro t ht w1 hE hO h19 h20 h18 hbt h21 h22 hdg hal
          have hnd : ¬ gx_dig x L t := fun q => by have := q.1; omega
          have hte : gx_digs x L b = t := by rw [← hdg]; exact gx_digs_f (by omega) hnd
          have hR1 : gx_Rt w1 x L t := ⟨(hE 10 (by decide)).trans hR.1, fun j hj => by rw [hO 169 (by decide)]; exact hR.2.1 j hj, h18⟩
          refine ga_aload_n 0 dX10_step_93 rfl ?_
          refine ga_V0 km_X10_94 kv_X10_here (c_X10_here hR1 hx (by omega)) (sh161 _) rfl rfl (gt_rc0 (by decide)) (Nat.le_of_ble_eq_true rfl) dX10_step_94 ?_
          refine ga_i2l dX10_step_97 ?_
          refine ga_ldc2_w kc_X10_110 dX10_step_98 ?_
          refine ga_ldc2_w kc_X10_112 dX10_step_101 ?_
          refine ga_S3 km_X10_64 kv_X10_in (c_X10_in (x := gx_hr x L t) (a := nI 48) (b := nI 57) rfl (by decide) (by decide)) (gt_rc0 (by decide)) (Nat.le_of_ble_eq_true rfl) dX10_step_104 ?_
          refine ga_if_eq 167 dX10_step_107 (by decide) (fun c_107 => ?_) (fun c_107 => absurd ((gx_wd hx).mpr hnd) c_107)
          exact gd_vret dX10_step_167 ⟨rfl, hO, hE, by unfold gx_Tk gx_nx gx_sv; rw [if_pos hdb, if_pos hdb, hte]; exact ⟨h19, h20, h18, fun _ => ⟨h21, h22⟩⟩⟩
        | succ j ih =>
          intro t ht w1 hE hO h19 h20 h18 hbt h21 h22 hdg hal
          have hR1 : gx_Rt w1 x L t := ⟨(hE 10 (by decide)).trans hR.1, fun j hj => by rw [hO 169 (by decide)]; exact hR.2.1 j hj, h18⟩
          refine ga_aload_n 0 dX10_step_93 rfl ?_
          refine ga_V0 km_X10_94 kv_X10_here (c_X10_here hR1 hx (by omega)) (sh161 _) rfl rfl (gt_rc0 (by decide)) (Nat.le_of_ble_eq_true rfl) dX10_step_94 ?_
          refine ga_i2l dX10_step_97 ?_
          refine ga_ldc2_w kc_X10_110 dX10_step_98 ?_
          refine ga_ldc2_w kc_X10_112 dX10_step_101 ?_
          refine ga_S3 km_X10_64 kv_X10_in (c_X10_in (x := gx_hr x L t) (a := nI 48) (b := nI 57) rfl (by decide) (by decide)) (gt_rc0 (by decide)) (Nat.le_of_ble_eq_true rfl) dX10_step_104 ?_
          refine ga_if_eq 167 dX10_step_107 (by decide) (fun c_107 => ?_) (fun c_107 => ?_)
          · have hnd := (gx_wd hx).mp c_107
            have hte : gx_digs x L b = t := by rw [← hdg]; exact gx_digs_f (by omega) hnd
            exact gd_vret dX10_step_167 ⟨rfl, hO, hE, by unfold gx_Tk gx_nx gx_sv; rw [if_pos hdb, if_pos hdb, hte]; exact ⟨h19, h20, h18, fun _ => ⟨h21, h22⟩⟩⟩
          · have hd : gx_dig x L t := Decidable.byContradiction fun q => c_107 ((gx_wd hx).mpr q)
            have hv9 := gx_vl_b (x := x) (f := b) (t - b) (fun j hj => (hal (b + j) (by omega) (by omega)).2)
            have hbj : b + (t - b) = t := by omega
            refine ga_aload_n 0 dX10_step_110 rfl ?_
            refine ga_aload_n 0 dX10_step_111 rfl ?_
            refine ga_get kf_X10_104 (sh161 _) (gv h21) dX10_step_112 ?_
            refine ga_iconst (nI 3) dX10_step_115 (by decide) ?_
            refine ga_icmp_ge 137 dX10_step_116 (by decide) (fun c_116 => ?_) (fun c_116 => ?_)
            · have h3 : ¬ t - b < 3 := by have := (nI_leI (by decide) (by have := hx.1; omega)).mp c_116; omega
              have hva : gx_vl x b (t - b) = gx_vl x b (t - b + 1) := by show _ = (if t - b < 3 then gx_vl x b (t - b) * 10 + x (b + (t - b)) - 48 else gx_vl x b (t - b)); rw [if_neg h3]
              refine ga_aload_n 0 dX10_step_137 rfl ?_
              refine ga_get kf_X10_107 (sh161 _) (gv h22) dX10_step_138 ?_
              refine ga_top (nI (gx_vl x b (t - b + 1))) (by rw [← hva]) ?_
              refine gw_put 22 kp_X10_107 (sh161 _) (sh161 _) rfl rfl (Nat.le_of_ble_eq_true rfl) dX10_step_141 (fun w_141 o_141 e_141 => ?_)
              refine ga_aload_n 0 dX10_step_144 rfl ?_
              refine ga_dup dX10_step_145 rfl ?_
              refine ga_get kf_X10_104 (sh161 _) (gv (show w_141 161 21 = nI (t - b) by rw [e_141, upd_ne _ _ (by decide)]; exact h21)) dX10_step_146 ?_
              refine ga_iconst (nI 1) dX10_step_149 (by decide) ?_
              refine ga_iadd dX10_step_150 ?_
              refine gw_put 21 kp_X10_104 (sh161 _) (sh161 _) rfl rfl (Nat.le_of_ble_eq_true rfl) dX10_step_151 (fun w_151 o_151 e_151 => ?_)
              refine ga_aload_n 0 dX10_step_154 rfl ?_
              refine ga_dup dX10_step_155 rfl ?_
              refine ga_get kf_X10_91 (sh161 _) (gv (show w_151 161 18 = nI t by rw [e_151, upd_ne _ _ (by decide), e_141, upd_ne _ _ (by decide)]; exact h18)) dX10_step_156 ?_
              refine ga_iconst (nI 1) dX10_step_159 (by decide) ?_
              refine ga_iadd dX10_step_160 ?_
              refine gw_put 18 kp_X10_91 (sh161 _) (sh161 _) rfl rfl (Nat.le_of_ble_eq_true rfl) dX10_step_161 (fun w_161 o_161 e_161 => ?_)
              refine ga_goto 93 dX10_step_164 (by decide) ?_
              exact ih (t + 1) (by omega) _ (fun q hq => by rw [e_161, upd_ne _ _ (by omega), e_151, upd_ne _ _ (by omega), e_141, upd_ne _ _ (by omega)]; exact hE q hq) (fun c hc => by rw [o_161 c hc, o_151 c hc, o_141 c hc]; exact hO c hc) (by rw [e_161, upd_ne _ _ (by decide), e_151, upd_ne _ _ (by decide), e_141, upd_ne _ _ (by decide)]; exact h19) (by rw [e_161, upd_ne _ _ (by decide), e_151, upd_ne _ _ (by decide), e_141, upd_ne _ _ (by decide)]; exact h20) (by rw [e_161, upd_eq, nI_add]) (by omega) (by rw [e_161, upd_ne _ _ (by decide), e_151, upd_eq, nI_add, show t + 1 - b = t - b + 1 by omega]) (by rw [e_161, upd_ne _ _ (by decide), e_151, upd_ne _ _ (by decide), e_141, upd_eq, show t + 1 - b = t - b + 1 by omega]) ((gx_digs_t hd).symm.trans hdg) (fun i h1 h2 => by
                by_cases e : i = t
                · rw [e]; exact hd.2
                · exact hal i h1 (by omega))
            · have h3 : t - b < 3 := Nat.not_le.mp (fun q => c_116 (nI_le q (by have := hx.1; omega)))
              have hva : 10 * gx_vl x b (t - b) + x t - 48 = gx_vl x b (t - b + 1) := by show _ = (if t - b < 3 then gx_vl x b (t - b) * 10 + x (b + (t - b)) - 48 else gx_vl x b (t - b)); rw [if_pos h3, hbj]; omega
              refine ga_bipush (nI 10) dX10_step_119 (by decide) ?_
              refine ga_aload_n 0 dX10_step_121 rfl ?_
              refine ga_get kf_X10_107 (sh161 _) (gv h22) dX10_step_122 ?_
              refine ga_imul dX10_step_125 ?_
              refine ga_aload_n 0 dX10_step_126 rfl ?_
              refine ga_V0 km_X10_94 kv_X10_here (c_X10_here hR1 hx (by omega)) (sh161 _) rfl rfl (gt_rc0 (by decide)) (Nat.le_of_ble_eq_true rfl) dX10_step_127 ?_
              refine ga_top (nI (x t)) (if_pos hd.1) ?_
              refine ga_iadd dX10_step_130 ?_
              refine ga_bipush (nI 48) dX10_step_131 (by decide) ?_
              refine ga_isub dX10_step_133 ?_
              refine ga_top (nI (gx_vl x b (t - b + 1))) (by rw [pk_mul, nI_add, pk_sub (by have := hd.2.1; omega), hva]) ?_
              refine ga_goto 141 dX10_step_134 (by decide) ?_
              refine gw_put 22 kp_X10_107 (sh161 _) (sh161 _) rfl rfl (Nat.le_of_ble_eq_true rfl) dX10_step_141 (fun w_141 o_141 e_141 => ?_)
              refine ga_aload_n 0 dX10_step_144 rfl ?_
              refine ga_dup dX10_step_145 rfl ?_
              refine ga_get kf_X10_104 (sh161 _) (gv (show w_141 161 21 = nI (t - b) by rw [e_141, upd_ne _ _ (by decide)]; exact h21)) dX10_step_146 ?_
              refine ga_iconst (nI 1) dX10_step_149 (by decide) ?_
              refine ga_iadd dX10_step_150 ?_
              refine gw_put 21 kp_X10_104 (sh161 _) (sh161 _) rfl rfl (Nat.le_of_ble_eq_true rfl) dX10_step_151 (fun w_151 o_151 e_151 => ?_)
              refine ga_aload_n 0 dX10_step_154 rfl ?_
              refine ga_dup dX10_step_155 rfl ?_
              refine ga_get kf_X10_91 (sh161 _) (gv (show w_151 161 18 = nI t by rw [e_151, upd_ne _ _ (by decide), e_141, upd_ne _ _ (by decide)]; exact h18)) dX10_step_156 ?_
              refine ga_iconst (nI 1) dX10_step_159 (by decide) ?_
              refine ga_iadd dX10_step_160 ?_
              refine gw_put 18 kp_X10_91 (sh161 _) (sh161 _) rfl rfl (Nat.le_of_ble_eq_true rfl) dX10_step_161 (fun w_161 o_161 e_161 => ?_)
              refine ga_goto 93 dX10_step_164 (by decide) ?_
              exact ih (t + 1) (by omega) _ (fun q hq => by rw [e_161, upd_ne _ _ (by omega), e_151, upd_ne _ _ (by omega), e_141, upd_ne _ _ (by omega)]; exact hE q hq) (fun c hc => by rw [o_161 c hc, o_151 c hc, o_141 c hc]; exact hO c hc) (by rw [e_161, upd_ne _ _ (by decide), e_151, upd_ne _ _ (by decide), e_141, upd_ne _ _ (by decide)]; exact h19) (by rw [e_161, upd_ne _ _ (by decide), e_151, upd_ne _ _ (by decide), e_141, upd_ne _ _ (by decide)]; exact h20) (by rw [e_161, upd_eq, nI_add]) (by omega) (by rw [e_161, upd_ne _ _ (by decide), e_151, upd_eq, nI_add, show t + 1 - b = t - b + 1 by omega]) (by rw [e_161, upd_ne _ _ (by decide), e_151, upd_ne _ _ (by decide), e_141, upd_eq, show t + 1 - b = t - b + 1 by omega]) ((gx_digs_t hd).symm.trans hdg) (fun i h1 h2 => by
                by_cases e : i = t
                · rw [e]; exact hd.2
                · exact hal i h1 (by omega))
      exact loop2 (L - b) b (by omega) _ (fun q hq => by rw [e_90, upd_ne _ _ (by omega), e_45, upd_ne _ _ (by omega), e_40, upd_ne _ _ (by omega), e_35, upd_ne _ _ (by omega), e_27, upd_ne _ _ (by omega)]; exact hE q hq) (fun c hc => by rw [o_90 c hc, o_45 c hc, o_40 c hc, o_35 c hc, o_27 c hc]; exact hO c hc) (by rw [e_90, upd_ne _ _ (by decide), e_45, upd_ne _ _ (by decide), e_40, upd_ne _ _ (by decide), e_35, upd_ne _ _ (by decide), e_27, upd_eq]) (by rw [e_90, upd_eq]) (by rw [e_90, upd_ne _ _ (by decide), e_45, upd_ne _ _ (by decide), e_40, upd_ne _ _ (by decide), e_35, upd_ne _ _ (by decide), e_27, upd_ne _ _ (by decide)]; exact h18) (Nat.le_refl _) (by rw [e_90, upd_ne _ _ (by decide), e_45, upd_ne _ _ (by decide), e_40, upd_eq, Nat.sub_self]) (by rw [e_90, upd_ne _ _ (by decide), e_45, upd_eq, Nat.sub_self]; rfl) rfl (fun i h1 h2 => by omega)
    · have hdb := (gx_wd hx).mp c_62
      refine ga_aload_n 0 dX10_step_65 rfl ?_
      refine ga_dup dX10_step_66 rfl ?_
      refine ga_get kf_X10_91 (sh161 _) (gv (show w_45 161 18 = nI b by rw [e_45, upd_ne _ _ (by decide), e_40, upd_ne _ _ (by decide), e_35, upd_ne _ _ (by decide), e_27, upd_ne _ _ (by decide)]; exact h18)) dX10_step_67 ?_
      refine ga_aload_n 0 dX10_step_70 rfl ?_
      refine ga_get kf_X10_101 (sh161 _) (gv (show w_45 161 20 = gx_hr x L b by rw [e_45, upd_ne _ _ (by decide), e_40, upd_ne _ _ (by decide), e_35, upd_eq])) dX10_step_71 ?_
      refine ga_if_ge 81 dX10_step_74 (by decide) (fun c_74 => ?_) (fun c_74 => ?_)
      · have hlt : b < L := Decidable.byContradiction fun q => absurd c_74 (by unfold gx_hr; rw [if_neg q]; decide)
        have hnx : nI b + nI 1 = nI (gx_nx x L b) := by unfold gx_nx; rw [if_neg hdb, if_pos hlt, nI_add]
        refine ga_iconst (nI 1) dX10_step_81 (by decide) ?_
        refine ga_iadd dX10_step_82 ?_
        refine ga_top _ hnx ?_
        refine gw_put 18 kp_X10_91 (sh161 _) (sh161 _) rfl rfl (Nat.le_of_ble_eq_true rfl) dX10_step_83 (fun w_83 o_83 e_83 => ?_)
        exact gd_vret dX10_step_86 ⟨rfl, (fun c hc => by rw [o_83 c hc, o_45 c hc, o_40 c hc, o_35 c hc, o_27 c hc]; exact hO c hc), (fun q hq => by rw [e_83, upd_ne _ _ (by omega), e_45, upd_ne _ _ (by omega), e_40, upd_ne _ _ (by omega), e_35, upd_ne _ _ (by omega), e_27, upd_ne _ _ (by omega)]; exact hE q hq), ⟨by rw [e_83, upd_ne _ _ (by decide), e_45, upd_ne _ _ (by decide), e_40, upd_ne _ _ (by decide), e_35, upd_ne _ _ (by decide), e_27, upd_eq], by rw [e_83, upd_ne _ _ (by decide), e_45, upd_ne _ _ (by decide), e_40, upd_ne _ _ (by decide), e_35, upd_eq]; unfold gx_sv; rw [if_neg hdb], by rw [e_83, upd_eq], fun q => absurd q hdb⟩⟩
      · have hlt : ¬ b < L := fun q => c_74 (by unfold gx_hr; rw [if_pos q]; exact nI_pos' (by have := hx.2 b q; omega))
        have hnx : nI b + nI 0 = nI (gx_nx x L b) := by unfold gx_nx; rw [if_neg hdb, if_neg hlt, nI_add, Nat.add_zero]
        refine ga_iconst (nI 0) dX10_step_77 (by decide) ?_
        refine ga_goto 82 dX10_step_78 (by decide) ?_
        refine ga_iadd dX10_step_82 ?_
        refine ga_top _ hnx ?_
        refine gw_put 18 kp_X10_91 (sh161 _) (sh161 _) rfl rfl (Nat.le_of_ble_eq_true rfl) dX10_step_83 (fun w_83 o_83 e_83 => ?_)
        exact gd_vret dX10_step_86 ⟨rfl, (fun c hc => by rw [o_83 c hc, o_45 c hc, o_40 c hc, o_35 c hc, o_27 c hc]; exact hO c hc), (fun q hq => by rw [e_83, upd_ne _ _ (by omega), e_45, upd_ne _ _ (by omega), e_40, upd_ne _ _ (by omega), e_35, upd_ne _ _ (by omega), e_27, upd_ne _ _ (by omega)]; exact hE q hq), ⟨by rw [e_83, upd_ne _ _ (by decide), e_45, upd_ne _ _ (by decide), e_40, upd_ne _ _ (by decide), e_35, upd_ne _ _ (by decide), e_27, upd_eq], by rw [e_83, upd_ne _ _ (by decide), e_45, upd_ne _ _ (by decide), e_40, upd_ne _ _ (by decide), e_35, upd_eq]; unfold gx_sv; rw [if_neg hdb], by rw [e_83, upd_eq], fun q => absurd q hdb⟩⟩
  have loop : ∀ j t, t + j = L →  ∀ w1 : gt_W, (∀ q, (q < 18 ∨ 23 ≤ q) → w1 161 q = w 161 q) → (∀ c, c ≠ 161 → w1 c = w c) → w1 161 18 = nI t → gx_skip x L t = b → gt_A l G RX10 "step" cX10_step 1 none (gt_rm 2 0 0) (gt_ZD G n (fun r w' => r = none ∧ (∀ c, c ≠ 161 → w' c = w c) ∧ (∀ q, (q < 18 ∨ 23 ≤ q) → w' 161 q = w 161 q) ∧ gx_Tk w' x L b)) (n, 0, 0) 0 [(0, .ref 161)] [] (gt_enc w1) := by
    intro j
    induction j with
    | zero =>
      intro t ht w1 hE hO h18 hsk
      have hR1 : gx_Rt w1 x L t := ⟨(hE 10 (by decide)).trans hR.1, fun j hj => by rw [hO 169 (by decide)]; exact hR.2.1 j hj, h18⟩
      have hb9 : b = t := by rw [← hsk, show t = L by omega, gx_skip_L]
      refine ga_aload_n 0 dX10_step_0 rfl ?_
      refine ga_V0 km_X10_94 kv_X10_here (c_X10_here hR1 hx (by omega)) (sh161 _) rfl rfl (gt_rc0 (by decide)) (Nat.le_of_ble_eq_true rfl) dX10_step_1 ?_
      refine ga_bipush (nI 32) dX10_step_4 (by decide) ?_
      refine ga_icmp_ne 22 dX10_step_6 (by decide) (fun c_6 => ?_) (fun c_6 => absurd c_6 (by unfold gx_hr; rw [if_neg (by omega)]; decide))
      exact ex w1 hE hO (by rw [hb9]; exact h18)
    | succ j ih =>
      intro t ht w1 hE hO h18 hsk
      have hR1 : gx_Rt w1 x L t := ⟨(hE 10 (by decide)).trans hR.1, fun j hj => by rw [hO 169 (by decide)]; exact hR.2.1 j hj, h18⟩
      refine ga_aload_n 0 dX10_step_0 rfl ?_
      refine ga_V0 km_X10_94 kv_X10_here (c_X10_here hR1 hx (by omega)) (sh161 _) rfl rfl (gt_rc0 (by decide)) (Nat.le_of_ble_eq_true rfl) dX10_step_1 ?_
      refine ga_bipush (nI 32) dX10_step_4 (by decide) ?_
      refine ga_icmp_ne 22 dX10_step_6 (by decide) (fun c_6 => ?_) (fun c_6 => ?_)
      · have hn : ¬ x t = 32 := fun q => c_6 (by unfold gx_hr; rw [if_pos (by omega), q])
        have hb9 : b = t := by rw [← hsk, gx_skip_lt (by omega), if_neg hn]
        exact ex w1 hE hO (by rw [hb9]; exact h18)
      · have hy : x t = 32 := (nI_eq (by have := hx.2 t (by omega); omega) (by decide)).mp (by have := c_6; unfold gx_hr at this; rw [if_pos (by omega)] at this; exact this)
        refine ga_aload_n 0 dX10_step_9 rfl ?_
        refine ga_dup dX10_step_10 rfl ?_
        refine ga_get kf_X10_91 (sh161 _) (gv h18) dX10_step_11 ?_
        refine ga_iconst (nI 1) dX10_step_14 (by decide) ?_
        refine ga_iadd dX10_step_15 ?_
        refine gw_put 18 kp_X10_91 (sh161 _) (sh161 _) rfl rfl (Nat.le_of_ble_eq_true rfl) dX10_step_16 (fun w_16 o_16 e_16 => ?_)
        refine ga_goto 0 dX10_step_19 (by decide) ?_
        exact ih (t + 1) (by omega) _ (fun q hq => by rw [e_16, upd_ne _ _ (by omega)]; exact hE q hq) (fun c hc => by rw [o_16 c hc]; exact hO c hc) (by rw [e_16, upd_eq, nI_add]) (by rw [← hsk, gx_skip_lt (a := t) (by omega), if_pos hy])
  exact loop (L - a) a (by omega) _ (fun _ _ => rfl) (fun _ _ => rfl) hR.2.2 hb.symm
