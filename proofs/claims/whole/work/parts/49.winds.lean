/-! hours of the reference -/
theorem gx_up_self (V : gx_K) (i j : Nat) : gx_up V i j (V i j) = V := by
  funext a b
  unfold gx_up
  split
  · rename_i h; rw [h.1, h.2]
  · rfl
theorem gx_moreM {wd ar ti : Nat} (h1 : wd ≤ 99) (h2 : ar ≤ 9) (h3 : ti ≤ 99) : (if nI 99 < nI wd + (if nI ar - nI ti / nI 5 < nI 0 then nI 0 else nI ar - nI ti / nI 5) then nI 99 else nI wd + (if nI ar - nI ti / nI 5 < nI 0 then nI 0 else nI ar - nI ti / nI 5)) = nI (gx_more wd ar ti) := by
  rw [pk_div (by omega) (by decide) (by decide), gx_max0' (by omega) (by omega), nI_add]
  unfold gx_more
  by_cases q : 99 < wd + (ar - ti / 5)
  · rw [if_pos (nI_lt q (by omega)), Nat.min_eq_left (by omega)]
  · rw [if_neg (nI_nlt (by omega) (by omega)), Nat.min_eq_right (by omega)]
theorem gx_min99m {a : Nat} (h : a ≤ 99) : (if nI 99 < nI a + nI 1 then nI 99 else nI a + nI 1) = nI (min 99 (a + 1)) := by
  rw [nI_add]
  by_cases q : 99 < a + 1
  · rw [if_pos (nI_lt q (by omega)), Nat.min_eq_left (by omega)]
  · rw [if_neg (nI_nlt (by omega) (by omega)), Nat.min_eq_right (by omega)]
theorem gx_slp_z {h : Int32} {t : Nat} (ht : t < 32) (q : gx_slpB h (nI t) = 0) : (h >>> (nI t &&& 31)) &&& nI 1 = 0 := by
  rw [gx_bit0 h ht]
  by_cases e : (h >>> (nI t &&& 31)) &&& nI 1 = nI 1
  · unfold gx_slpB at q
    rw [if_pos e] at q
    exact absurd q (by decide)
  · rw [gx_bit1 h ht] at e
    simpa using e
theorem gx_slp_n {h : Int32} {t : Nat} (q : ¬ gx_slpB h (nI t) = 0) : ¬ (h >>> (nI t &&& 31)) &&& nI 1 = 0 := fun e => q (by
  unfold gx_slpB
  rw [e, if_neg (by decide)]
  exact nI_0)
theorem gx_as_ne {a : Nat} (h : gx_As a) {b : Nat} (hb : b ≠ 164) (hb2 : b ≠ 165) : b ≠ a := by
  rcases h with rfl | rfl
  · exact hb
  · exact hb2
theorem gx_sail_m {K U : gx_K} {t q v : Nat} (hq : (U 4 t = K 7 t ∧ q = U 4 t) ∨ (¬ U 4 t = K 7 t ∧ q = gx_next K U t)) (hv : (K 5 t ≤ gx_dep K U (U 4 t) ∧ K 5 t ≤ gx_dep K U q ∧ v = q) ∨ (¬ (K 5 t ≤ gx_dep K U (U 4 t) ∧ K 5 t ≤ gx_dep K U q) ∧ v = U 4 t)) : gx_sail K U t = gx_up U 4 t v := by
  unfold gx_sail
  rcases hq with ⟨h1, h2⟩ | ⟨h1, h2⟩
  · rw [if_pos h1]
    have : v = U 4 t := by
      rcases hv with h | h
      · rw [h.2.2, h2]
      · exact h.2
    rw [this, gx_up_self]
  · rw [if_neg h1]
    rcases hv with ⟨a, b, e⟩ | ⟨a, e⟩
    · rw [if_pos (by rw [← h2]; exact Nat.le_min.mpr ⟨a, b⟩), e, h2]
    · rw [if_neg (by rw [← h2]; exact fun z => a (Nat.le_min.mp z)), e, gx_up_self]
set_option maxRecDepth 100000 in
set_option maxHeartbeats 4000000 in
theorem c_X10_winds {l : Launch} {G : gt_G} {n : Nat} {w : gt_W} {a : Nat} {K V : gx_K} {m : Int32} (hM : gx_mc (w 162) K) (kw : gx_KW K) (ha : gx_As a) (hV : gx_ms (w a) K V m) (vw : gx_VW K V) : gt_D l G yX10_winds cX10_winds 5 none 2 n [.ref 161, .ref a] w (fun r w' => r = none ∧ (∀ b, b ≠ a → w' b = w b) ∧ gx_ms (w' a) K (gx_wind K V m) m) := by
  refine gt_D_of (own := RX10) (nm := "winds") rfl rfl (by decide +kernel) (Nat.le_of_ble_eq_true rfl) ?_
  show gt_A _ _ _ _ _ _ _ _ _ _ _ [(0, .ref 161), (1, .ref a)] _ _
  refine ga_iconst (nI 0) dX10_winds_0 (by decide) ?_
  refine gs_istore_n [(0, _), (1, _), (2, _)] dX10_winds_1 (by decide) rfl rfl ?_
  refine ga_iconst (nI 0) dX10_winds_2 (by decide) ?_
  refine gs_istore_n [(0, _), (1, _), (2, _), (3, _)] dX10_winds_3 (by decide) rfl rfl ?_
  have loop : ∀ k p, p + k = K 0 2 → ∀ w1 : gt_W, (∀ b, b ≠ a → w1 b = w b) → gx_ms (w1 a) K (gx_wp K V m p) m → gt_A l G RX10 "winds" cX10_winds 5 none (gt_rm 2 0 0) (gt_ZD G n (fun r w' => r = none ∧ (∀ b, b ≠ a → w' b = w b) ∧ gx_ms (w' a) K (gx_wind K V m) m)) (n, 0, 0) 4 [(0, .ref 161), (1, .ref a), (2, .int (gx_hp V m p)), (3, .int (nI p))] [] (gt_enc w1) := by
    intro k
    induction k with
    | zero =>
      intro p ht w1 o1 hV
      have ep : p = K 0 2 := by omega
      have hM0 := hM
      have hM : gx_mc (w1 162) K := by rw [o1 162 (gx_as_ne ha (by decide) (by decide))]; exact hM
      refine ga_iload_n 3 dX10_winds_4 rfl ?_
      refine ga_aload_n 0 dX10_winds_5 rfl ?_
      refine ga_get kf_X10_7 (sh161 _) rfl dX10_winds_6 ?_
      refine ga_iconst (nI 2) dX10_winds_9 (by decide) ?_
      refine gm_c2 hM dX10_winds_10 ?_
      refine ga_icmp_ge 132 dX10_winds_11 (by decide) (fun c_11 => ?_) (fun c_11 => absurd (nI_le (by omega) (by have := kw.2.2.1; omega)) c_11)
      refine ga_iconst (nI 0) dX10_winds_132 (by decide) ?_
      refine gs_istore_n [(0, _), (1, _), (2, _), (3, _)] dX10_winds_133 (by decide) rfl rfl ?_
      have hM := hM0
      have loop2 : ∀ k2 t, t + k2 = K 0 1 → ∀ w2 : gt_W, (∀ b, b ≠ a → w2 b = w b) → gx_ms (w2 a) K (gx_wt (gx_wp K V m p) (gx_hp V m p) t) m → gt_A l G RX10 "winds" cX10_winds 5 none (gt_rm 2 0 0) (gt_ZD G n (fun r w' => r = none ∧ (∀ b, b ≠ a → w' b = w b) ∧ gx_ms (w' a) K (gx_wind K V m) m)) (n, 0, 0) 134 [(0, .ref 161), (1, .ref a), (2, .int (gx_hp V m p)), (3, .int (nI t))] [] (gt_enc w2) := by
        intro k2
        induction k2 with
        | zero =>
          intro t ht w2 o2 hV
          have et : t = K 0 1 := by omega
          have hM : gx_mc (w2 162) K := by rw [o2 162 (gx_as_ne ha (by decide) (by decide))]; exact hM
          refine ga_iload_n 3 dX10_winds_134 rfl ?_
          refine ga_aload_n 0 dX10_winds_135 rfl ?_
          refine ga_get kf_X10_7 (sh161 _) rfl dX10_winds_136 ?_
          refine ga_iconst (nI 1) dX10_winds_139 (by decide) ?_
          refine gm_c1 hM dX10_winds_140 ?_
          refine ga_icmp_ge 182 dX10_winds_141 (by decide) (fun c_141 => ?_) (fun c_141 => absurd (nI_le (by omega) (by have := kw.2.1; omega)) c_141)
          exact gd_vret dX10_winds_182 ⟨rfl, o2, by rw [ep, et] at hV; exact hV⟩
        | succ k2 ih =>
          intro t ht w2 o2 hV
          have hM : gx_mc (w2 162) K := by rw [o2 162 (gx_as_ne ha (by decide) (by decide))]; exact hM
          refine ga_iload_n 3 dX10_winds_134 rfl ?_
          refine ga_aload_n 0 dX10_winds_135 rfl ?_
          refine ga_get kf_X10_7 (sh161 _) rfl dX10_winds_136 ?_
          refine ga_iconst (nI 1) dX10_winds_139 (by decide) ?_
          refine gm_c1 hM dX10_winds_140 ?_
          refine ga_icmp_ge 182 dX10_winds_141 (by decide) (fun c_141 => absurd c_141 (nI_ge (by omega) (by have := kw.2.1; omega))) (fun c_141 => ?_)
          refine ga_aload_n 1 dX10_winds_144 rfl ?_
          refine ga_iconst (nI 0) dX10_winds_145 (by decide) ?_
          refine ga_iload_n 3 dX10_winds_146 rfl ?_
          refine ga_iadd dX10_winds_147 ?_
          refine ga_iload_n 2 dX10_winds_148 rfl ?_
          refine ga_iload_n 3 dX10_winds_149 rfl ?_
          refine ga_S2 km_X10_208 kv_X10_has c_X10_has (gt_rc0 (by decide)) (Nat.le_of_ble_eq_true rfl) dX10_winds_150 ?_
          refine ga_if_eq 164 dX10_winds_153 (by decide) (fun c_153 => ?_) (fun c_153 => ?_)
          · have hbt := gx_slp_z (by have := kw.2.1; omega) c_153
            refine ga_iconst (nI 0) dX10_winds_164 (by decide) ?_
            refine ga_aload_n 1 dX10_winds_165 rfl ?_
            refine ga_iconst (nI 0) dX10_winds_166 (by decide) ?_
            refine ga_iload_n 3 dX10_winds_167 rfl ?_
            refine ga_iadd dX10_winds_168 ?_
            refine gm_S1 (shA ha) hV kw (by omega) dX10_winds_169 ?_
            refine ga_iconst (nI 3) dX10_winds_170 (by decide) ?_
            refine ga_isub dX10_winds_171 ?_
            refine ga_S2 km_X10_147 kv_X10_greater c_X10_greater (gt_rc0 (by decide)) (Nat.le_of_ble_eq_true rfl) dX10_winds_172 ?_
            refine ga_top _ (gx_max0' (by have := (gx_wt_VW (h := gx_hp V m p) (gx_wp_VW (m := m) vw p) t).2.1 t (by omega); omega) (by omega)) ?_
            refine gmw_S1 (shA ha) hV kw (by omega) dX10_winds_175 (fun w_175 o_175 hV => ?_)
            refine gs_iincN 3 1 [(0, _), (1, _), (2, _), (3, _)] dX10_winds_176 rfl (by decide) (by decide) rfl rfl ?_
            refine ga_goto 134 dX10_winds_179 (by decide) ?_
            first | exact ih (t + 1) (by omega) _ (fun b hb => (o_175 b hb).trans (o2 b hb)) (by rw [gx_wt_t hbt]; exact hV) | exact ih (t + 1) (by omega) _ (fun b hb => (o_175 b hb).trans (o2 b hb)) (by rw [gx_up_self] at hV; rw [gx_wt_f hbt]; exact hV)
          · have hbt := gx_slp_n c_153
            refine ga_aload_n 1 dX10_winds_156 rfl ?_
            refine ga_iconst (nI 0) dX10_winds_157 (by decide) ?_
            refine ga_iload_n 3 dX10_winds_158 rfl ?_
            refine ga_iadd dX10_winds_159 ?_
            refine gm_S1 (shA ha) hV kw (by omega) dX10_winds_160 ?_
            refine ga_goto 175 dX10_winds_161 (by decide) ?_
            refine gmw_S1 (shA ha) hV kw (by omega) dX10_winds_175 (fun w_175 o_175 hV => ?_)
            refine gs_iincN 3 1 [(0, _), (1, _), (2, _), (3, _)] dX10_winds_176 rfl (by decide) (by decide) rfl rfl ?_
            refine ga_goto 134 dX10_winds_179 (by decide) ?_
            first | exact ih (t + 1) (by omega) _ (fun b hb => (o_175 b hb).trans (o2 b hb)) (by rw [gx_wt_t hbt]; exact hV) | exact ih (t + 1) (by omega) _ (fun b hb => (o_175 b hb).trans (o2 b hb)) (by rw [gx_up_self] at hV; rw [gx_wt_f hbt]; exact hV)
      exact loop2 (K 0 1) 0 (by omega) _ o1 hV
    | succ k ih =>
      intro p ht w1 o1 hV
      have hb := gx_wp_b (m := m) vw p
      have hM : gx_mc (w1 162) K := by rw [o1 162 (gx_as_ne ha (by decide) (by decide))]; exact hM
      refine ga_iload_n 3 dX10_winds_4 rfl ?_
      refine ga_aload_n 0 dX10_winds_5 rfl ?_
      refine ga_get kf_X10_7 (sh161 _) rfl dX10_winds_6 ?_
      refine ga_iconst (nI 2) dX10_winds_9 (by decide) ?_
      refine gm_c2 hM dX10_winds_10 ?_
      refine ga_icmp_ge 132 dX10_winds_11 (by decide) (fun c_11 => absurd c_11 (nI_ge (by omega) (by have := kw.2.2.1; omega))) (fun c_11 => ?_)
      refine ga_aload_n 1 dX10_winds_14 rfl ?_
      refine ga_bipush (nI 12) dX10_winds_15 (by decide) ?_
      refine ga_iload_n 3 dX10_winds_17 rfl ?_
      refine ga_iadd dX10_winds_18 ?_
      refine gm_S2 (shA ha) hV kw (by omega) dX10_winds_19 ?_
      refine ga_top (gx_seat (V 2 p)) (by rw [gx_wp_row (by decide) (by decide)]) ?_
      refine gs_istore [(0, _), (1, _), (2, _), (3, _), (4, _)] dX10_winds_20 (by decide) rfl rfl ?_
      refine ga_iload 4 dX10_winds_22 rfl ?_
      refine ga_iconst ((-1)) dX10_winds_24 (by decide) ?_
      refine ga_icmp_eq 108 dX10_winds_25 (by decide) (fun c_25 => ?_) (fun c_25 => ?_)
      · have hact : ¬ gx_act V m p := fun q => q.1 ((gx_seat_m1 (by have := vw.2.2.1 p (by omega); have := kw.2.1; omega)).mp c_25)
        refine ga_aload_n 1 dX10_winds_108 rfl ?_
        refine ga_bipush (nI 6) dX10_winds_109 (by decide) ?_
        refine ga_iload_n 3 dX10_winds_111 rfl ?_
        refine ga_iadd dX10_winds_112 ?_
        refine ga_iconst (nI 0) dX10_winds_113 (by decide) ?_
        refine ga_aload_n 1 dX10_winds_114 rfl ?_
        refine ga_bipush (nI 6) dX10_winds_115 (by decide) ?_
        refine ga_iload_n 3 dX10_winds_117 rfl ?_
        refine ga_iadd dX10_winds_118 ?_
        refine gm_S3 (shA ha) hV kw (by omega) dX10_winds_119 ?_
        refine ga_iconst (nI 2) dX10_winds_120 (by decide) ?_
        refine ga_isub dX10_winds_121 ?_
        refine ga_S2 km_X10_147 kv_X10_greater c_X10_greater (gt_rc0 (by decide)) (Nat.le_of_ble_eq_true rfl) dX10_winds_122 ?_
        refine ga_top _ (gx_max0' (by have := hb.2 p (by omega); omega) (by omega)) ?_
        refine gmw_S3 (shA ha) hV kw (by omega) dX10_winds_125 (fun w_125 o_125 hV => ?_)
        refine gs_iincN 3 1 [(0, _), (1, _), (2, _), (3, _), (4, _)] dX10_winds_126 rfl (by decide) (by decide) rfl rfl ?_
        refine ga_goto 4 dX10_winds_129 (by decide) ?_
        refine ga_take 4 ?_
        first | (have h9 := ih (p + 1) (by omega) _ (fun b hb => (o_125 b hb).trans (o1 b hb)) (by rw [gx_wp_f hact]; exact hV); rw [gx_hp_f hact] at h9; exact h9) | (have h9 := ih (p + 1) (by omega) _ (fun b hb => ((o_97 b hb).trans (o_78 b hb)).trans (o1 b hb)) (by rw [gx_wp_t hact ht9]; exact hV); rw [gx_hp_t hact ht9] at h9; exact h9)
      · have hnz : ¬ V 2 p = 0 := fun q => c_25 (by rw [q]; rfl)
        refine ga_aload_n 1 dX10_winds_28 rfl ?_
        refine ga_bipush (nI 18) dX10_winds_29 (by decide) ?_
        refine gm_sm (shA ha) hV dX10_winds_31 ?_
        refine ga_iload_n 3 dX10_winds_32 rfl ?_
        refine ga_S2 km_X10_208 kv_X10_has c_X10_has (gt_rc0 (by decide)) (Nat.le_of_ble_eq_true rfl) dX10_winds_33 ?_
        refine ga_if_ne 108 dX10_winds_36 (by decide) (fun c_36 => ?_) (fun c_36 => ?_)
        · have hact : ¬ gx_act V m p := fun q => c_36 q.2
          refine ga_aload_n 1 dX10_winds_108 rfl ?_
          refine ga_bipush (nI 6) dX10_winds_109 (by decide) ?_
          refine ga_iload_n 3 dX10_winds_111 rfl ?_
          refine ga_iadd dX10_winds_112 ?_
          refine ga_iconst (nI 0) dX10_winds_113 (by decide) ?_
          refine ga_aload_n 1 dX10_winds_114 rfl ?_
          refine ga_bipush (nI 6) dX10_winds_115 (by decide) ?_
          refine ga_iload_n 3 dX10_winds_117 rfl ?_
          refine ga_iadd dX10_winds_118 ?_
          refine gm_S3 (shA ha) hV kw (by omega) dX10_winds_119 ?_
          refine ga_iconst (nI 2) dX10_winds_120 (by decide) ?_
          refine ga_isub dX10_winds_121 ?_
          refine ga_S2 km_X10_147 kv_X10_greater c_X10_greater (gt_rc0 (by decide)) (Nat.le_of_ble_eq_true rfl) dX10_winds_122 ?_
          refine ga_top _ (gx_max0' (by have := hb.2 p (by omega); omega) (by omega)) ?_
          refine gmw_S3 (shA ha) hV kw (by omega) dX10_winds_125 (fun w_125 o_125 hV => ?_)
          refine gs_iincN 3 1 [(0, _), (1, _), (2, _), (3, _), (4, _)] dX10_winds_126 rfl (by decide) (by decide) rfl rfl ?_
          refine ga_goto 4 dX10_winds_129 (by decide) ?_
          refine ga_take 4 ?_
          first | (have h9 := ih (p + 1) (by omega) _ (fun b hb => (o_125 b hb).trans (o1 b hb)) (by rw [gx_wp_f hact]; exact hV); rw [gx_hp_f hact] at h9; exact h9) | (have h9 := ih (p + 1) (by omega) _ (fun b hb => ((o_97 b hb).trans (o_78 b hb)).trans (o1 b hb)) (by rw [gx_wp_t hact ht9]; exact hV); rw [gx_hp_t hact ht9] at h9; exact h9)
        · have hact : gx_act V m p := ⟨hnz, c_36⟩
          obtain ⟨t9, ht9⟩ : ∃ u, V 2 p = u + 1 := ⟨V 2 p - 1, by omega⟩
          have ht6 : t9 < K 0 1 := by have := vw.2.2.1 p (by omega); omega
          rw [show gx_seat (V 2 p) = nI t9 by rw [ht9]; exact gx_seat_s t9]
          refine ga_aload_n 1 dX10_winds_39 rfl ?_
          refine ga_iconst (nI 0) dX10_winds_40 (by decide) ?_
          refine ga_iload 4 dX10_winds_41 rfl ?_
          refine ga_iadd dX10_winds_43 ?_
          refine ga_bipush (nI 99) dX10_winds_44 (by decide) ?_
          refine ga_aload_n 1 dX10_winds_46 rfl ?_
          refine ga_iconst (nI 0) dX10_winds_47 (by decide) ?_
          refine ga_iload 4 dX10_winds_48 rfl ?_
          refine ga_iadd dX10_winds_50 ?_
          refine gm_S1 (shA ha) hV kw ht6 dX10_winds_51 ?_
          refine ga_iconst (nI 0) dX10_winds_52 (by decide) ?_
          refine ga_aload_n 0 dX10_winds_53 rfl ?_
          refine ga_get kf_X10_7 (sh161 _) rfl dX10_winds_54 ?_
          refine ga_bipush (nI 26) dX10_winds_57 (by decide) ?_
          refine ga_iload_n 3 dX10_winds_59 rfl ?_
          refine ga_iadd dX10_winds_60 ?_
          refine gm_C4 hM kw (by omega) dX10_winds_61 ?_
          refine ga_aload_n 1 dX10_winds_62 rfl ?_
          refine ga_bipush (nI 6) dX10_winds_63 (by decide) ?_
          refine ga_iload_n 3 dX10_winds_65 rfl ?_
          refine ga_iadd dX10_winds_66 ?_
          refine gm_S3 (shA ha) hV kw (by omega) dX10_winds_67 ?_
          refine ga_iconst (nI 5) dX10_winds_68 (by decide) ?_
          refine ga_idiv dX10_winds_69 (by decide) ?_
          refine ga_isub dX10_winds_70 ?_
          refine ga_S2 km_X10_147 kv_X10_greater c_X10_greater (gt_rc0 (by decide)) (Nat.le_of_ble_eq_true rfl) dX10_winds_71 ?_
          refine ga_iadd dX10_winds_74 ?_
          refine ga_S2 km_X10_212 kv_X10_lesser c_X10_lesser (gt_rc0 (by decide)) (Nat.le_of_ble_eq_true rfl) dX10_winds_75 ?_
          refine ga_top _ (gx_moreM (hb.1 t9 ht6) (kw.2.2.2.2.2.2.2.1 p (by omega)).2 (hb.2 p (by omega))) ?_
          refine gmw_S1 (shA ha) hV kw ht6 dX10_winds_78 (fun w_78 o_78 hV => ?_)
          refine ga_aload_n 1 dX10_winds_79 rfl ?_
          refine ga_bipush (nI 6) dX10_winds_80 (by decide) ?_
          refine ga_iload_n 3 dX10_winds_82 rfl ?_
          refine ga_iadd dX10_winds_83 ?_
          refine ga_bipush (nI 99) dX10_winds_84 (by decide) ?_
          refine ga_aload_n 1 dX10_winds_86 rfl ?_
          refine ga_bipush (nI 6) dX10_winds_87 (by decide) ?_
          refine ga_iload_n 3 dX10_winds_89 rfl ?_
          refine ga_iadd dX10_winds_90 ?_
          refine gm_S3 (shA ha) hV kw (by omega) dX10_winds_91 ?_
          refine ga_top (nI (gx_wp K V m p 3 p)) (by rw [gx_up_row (by decide)]) ?_
          refine ga_iconst (nI 1) dX10_winds_92 (by decide) ?_
          refine ga_iadd dX10_winds_93 ?_
          refine ga_S2 km_X10_212 kv_X10_lesser c_X10_lesser (gt_rc0 (by decide)) (Nat.le_of_ble_eq_true rfl) dX10_winds_94 ?_
          refine ga_top _ (gx_min99m (hb.2 p (by omega))) ?_
          refine gmw_S3 (shA ha) hV kw (by omega) dX10_winds_97 (fun w_97 o_97 hV => ?_)
          refine ga_iload_n 2 dX10_winds_98 rfl ?_
          refine ga_iconst (nI 1) dX10_winds_99 (by decide) ?_
          refine ga_iload 4 dX10_winds_100 rfl ?_
          refine ga_ishl dX10_winds_102 ?_
          refine ga_ior dX10_winds_103 ?_
          refine gs_istore_n [(0, _), (1, _), (2, _), (3, _), (4, _)] dX10_winds_104 (by decide) rfl rfl ?_
          refine ga_goto 126 dX10_winds_105 (by decide) ?_
          refine gs_iincN 3 1 [(0, _), (1, _), (2, _), (3, _), (4, _)] dX10_winds_126 rfl (by decide) (by decide) rfl rfl ?_
          refine ga_goto 4 dX10_winds_129 (by decide) ?_
          refine ga_take 4 ?_
          first | (have h9 := ih (p + 1) (by omega) _ (fun b hb => (o_125 b hb).trans (o1 b hb)) (by rw [gx_wp_f hact]; exact hV); rw [gx_hp_f hact] at h9; exact h9) | (have h9 := ih (p + 1) (by omega) _ (fun b hb => ((o_97 b hb).trans (o_78 b hb)).trans (o1 b hb)) (by rw [gx_wp_t hact ht9]; exact hV); rw [gx_hp_t hact ht9] at h9; exact h9)
  exact loop (K 0 2) 0 (by omega) _ (fun _ _ => rfl) hV
set_option maxRecDepth 100000 in
set_option maxHeartbeats 4000000 in
theorem c_X10_hourGoes {l : Launch} {G : gt_G} {n : Nat} {w : gt_W} {a : Nat} {K V : gx_K} {m : Int32} (hM : gx_mc (w 162) K) (kw : gx_KW K) (ha : gx_As a) (hV : gx_ms (w a) K V m) (vw : gx_VW K V) : gt_D l G yX10_hourGoes cX10_hourGoes 6 none 5 n [.ref 161, .ref a] w (fun r w' => r = none ∧ (∀ b, b ≠ a → w' b = w b) ∧ gx_ms (w' a) K (gx_hour K V m) m) := by
  refine gt_D_of (own := RX10) (nm := "hourGoes") rfl rfl (by decide +kernel) (Nat.le_of_ble_eq_true rfl) ?_
  show gt_A _ _ _ _ _ _ _ _ _ _ _ [(0, .ref 161), (1, .ref a)] _ _
  refine ga_aload_n 0 dX10_hourGoes_0 rfl ?_
  refine ga_aload_n 1 dX10_hourGoes_1 rfl ?_
  refine gd_V1 km_X10_215 kv_X10_winds (c_X10_winds hM kw ha hV vw) (sh161 _) rfl rfl (gt_rc0 (by decide)) (Nat.le_of_ble_eq_true rfl) dX10_hourGoes_2 (fun r_2 w_2 q_2 => ?_)
  obtain ⟨rfl, o0, hV⟩ := q_2
  refine ga_iconst (nI 0) dX10_hourGoes_5 (by decide) ?_
  refine gs_istore_n [(0, _), (1, _), (2, _)] dX10_hourGoes_6 (by decide) rfl rfl ?_
  have loop : ∀ j t, t + j = K 0 3 → ∀ w1 : gt_W, (∀ b, b ≠ a → w1 b = w b) → gx_ms (w1 a) K (gx_sb K (gx_wind K V m) t) m → gt_A l G RX10 "hourGoes" cX10_hourGoes 6 none (gt_rm 5 0 0) (gt_ZD G n (fun r w' => r = none ∧ (∀ b, b ≠ a → w' b = w b) ∧ gx_ms (w' a) K (gx_hour K V m) m)) (n, 0, 0) 7 [(0, .ref 161), (1, .ref a), (2, .int (nI t))] [] (gt_enc w1) := by
    intro j
    induction j with
    | zero =>
      intro t ht w1 o1 hV
      have et : t = K 0 3 := by omega
      have hM : gx_mc (w1 162) K := by rw [o1 162 (gx_as_ne ha (by decide) (by decide))]; exact hM
      refine ga_iload_n 2 dX10_hourGoes_7 rfl ?_
      refine ga_aload_n 0 dX10_hourGoes_8 rfl ?_
      refine ga_get kf_X10_7 (sh161 _) rfl dX10_hourGoes_9 ?_
      refine ga_iconst (nI 3) dX10_hourGoes_12 (by decide) ?_
      refine gm_c3 hM dX10_hourGoes_13 ?_
      refine ga_icmp_ge 132 dX10_hourGoes_14 (by decide) (fun c_14 => ?_) (fun c_14 => absurd (nI_le (by omega) (by have := kw.2.2.2.1; omega)) c_14)
      refine ga_aload_n 1 dX10_hourGoes_132 rfl ?_
      refine ga_bipush (nI 23) dX10_hourGoes_133 (by decide) ?_
      refine ga_dup2 dX10_hourGoes_135 rfl rfl ?_
      refine gm_sh (shA ha) hV dX10_hourGoes_136 ?_
      refine ga_iconst (nI 1) dX10_hourGoes_137 (by decide) ?_
      refine ga_iadd dX10_hourGoes_138 ?_
      refine ga_top (nI ((gx_sb K (gx_wind K V m) t) 0 0 + 1)) (nI_add _ 1) ?_
      refine gmw_sh (shA ha) hV kw dX10_hourGoes_139 (fun w_139 o_139 hV => ?_)
      exact gd_vret dX10_hourGoes_140 ⟨rfl, fun b hb => (o_139 b hb).trans (o1 b hb), by rw [gx_sb_row (by decide), gx_wind_row (by decide) (by decide), et] at hV; exact hV⟩
    | succ j ih =>
      intro t ht w1 o1 hV
      have hM : gx_mc (w1 162) K := by rw [o1 162 (gx_as_ne ha (by decide) (by decide))]; exact hM
      have hu := gx_sb_VW kw (gx_wind_VW (m := m) vw) t (by omega)
      have hu4 := hu.2.2.2.2 t (by omega)
      have h7 := kw.2.2.2.2.2.2.2.2.2.2.1 t (by omega)
      have h5 := kw.2.2.2.2.2.2.2.2.1 t (by omega)
      have k0 := kw.1
      have hdl : ∀ k, gx_dep K (gx_sb K (gx_wind K V m) t) k ≤ 594 := fun k => gx_dep_le kw hu k
      have hdl1 := hdl ((gx_sb K (gx_wind K V m) t) 4 t)
      refine ga_iload_n 2 dX10_hourGoes_7 rfl ?_
      refine ga_aload_n 0 dX10_hourGoes_8 rfl ?_
      refine ga_get kf_X10_7 (sh161 _) rfl dX10_hourGoes_9 ?_
      refine ga_iconst (nI 3) dX10_hourGoes_12 (by decide) ?_
      refine gm_c3 hM dX10_hourGoes_13 ?_
      refine ga_icmp_ge 132 dX10_hourGoes_14 (by decide) (fun c_14 => absurd c_14 (nI_ge (by omega) (by have := kw.2.2.2.1; omega))) (fun c_14 => ?_)
      refine ga_aload_n 1 dX10_hourGoes_17 rfl ?_
      refine ga_bipush (nI 19) dX10_hourGoes_18 (by decide) ?_
      refine ga_iload_n 2 dX10_hourGoes_20 rfl ?_
      refine ga_iadd dX10_hourGoes_21 ?_
      refine gm_S4 (shA ha) hV kw (by omega) dX10_hourGoes_22 ?_
      refine gs_istore_n [(0, _), (1, _), (2, _), (3, _)] dX10_hourGoes_23 (by decide) rfl rfl ?_
      refine ga_iload_n 3 dX10_hourGoes_24 rfl ?_
      refine ga_aload_n 0 dX10_hourGoes_25 rfl ?_
      refine ga_get kf_X10_7 (sh161 _) rfl dX10_hourGoes_26 ?_
      refine ga_bipush (nI 40) dX10_hourGoes_29 (by decide) ?_
      refine ga_iload_n 2 dX10_hourGoes_31 rfl ?_
      refine ga_iadd dX10_hourGoes_32 ?_
      refine gm_C7 hM kw (by omega) dX10_hourGoes_33 ?_
      refine ga_icmp_ge 43 dX10_hourGoes_34 (by decide) (fun c_34 => ?_) (fun c_34 => ?_)
      · have hge : K 7 t ≤ (gx_sb K (gx_wind K V m) t) 4 t := (nI_leI (by omega) (by omega)).mp c_34
        refine ga_iload_n 3 dX10_hourGoes_43 rfl ?_
        refine ga_aload_n 0 dX10_hourGoes_44 rfl ?_
        refine ga_get kf_X10_7 (sh161 _) rfl dX10_hourGoes_45 ?_
        refine ga_bipush (nI 40) dX10_hourGoes_48 (by decide) ?_
        refine ga_iload_n 2 dX10_hourGoes_50 rfl ?_
        refine ga_iadd dX10_hourGoes_51 ?_
        refine gm_C7 hM kw (by omega) dX10_hourGoes_52 ?_
        refine ga_icmp_le 62 dX10_hourGoes_53 (by decide) (fun c_53 => ?_) (fun c_53 => ?_)
        · have heq : (gx_sb K (gx_wind K V m) t) 4 t = K 7 t := by have := (nI_leI (by omega) (by omega)).mp c_53; omega
          have hq : ((gx_sb K (gx_wind K V m) t) 4 t = K 7 t ∧ K 7 t = (gx_sb K (gx_wind K V m) t) 4 t) ∨ (¬ (gx_sb K (gx_wind K V m) t) 4 t = K 7 t ∧ K 7 t = gx_next K (gx_sb K (gx_wind K V m) t) t) := Or.inl ⟨heq, heq.symm⟩
          obtain ⟨q9, hq9⟩ : ∃ q9, q9 = (gx_sb K (gx_wind K V m) t) 4 t := ⟨_, rfl⟩
          have hq : ((gx_sb K (gx_wind K V m) t) 4 t = K 7 t ∧ q9 = (gx_sb K (gx_wind K V m) t) 4 t) ∨ (¬ (gx_sb K (gx_wind K V m) t) 4 t = K 7 t ∧ q9 = gx_next K (gx_sb K (gx_wind K V m) t) t) := Or.inl ⟨heq, hq9⟩
          have hq0 : q9 < K 0 0 := by omega
          refine ga_iload_n 3 dX10_hourGoes_62 rfl ?_
          refine ga_top (nI q9) (by rw [hq9]) ?_
          refine gs_istore [(0, _), (1, _), (2, _), (3, _), (4, _)] dX10_hourGoes_63 (by decide) rfl rfl ?_
          refine ga_aload_n 0 dX10_hourGoes_65 rfl ?_
          refine ga_aload_n 1 dX10_hourGoes_66 rfl ?_
          refine ga_iload_n 3 dX10_hourGoes_67 rfl ?_
          refine ga_V2 km_X10_166 kv_X10_depthOn (c_X10_depthOn hM kw ha hV hu (by omega)) (sh161 _) rfl rfl (gt_rc0 (by decide)) (Nat.le_of_ble_eq_true rfl) dX10_hourGoes_68 ?_
          refine ga_aload_n 0 dX10_hourGoes_71 rfl ?_
          refine ga_get kf_X10_7 (sh161 _) rfl dX10_hourGoes_72 ?_
          refine ga_bipush (nI 32) dX10_hourGoes_75 (by decide) ?_
          refine ga_iload_n 2 dX10_hourGoes_77 rfl ?_
          refine ga_iadd dX10_hourGoes_78 ?_
          refine gm_C5 hM kw (by omega) dX10_hourGoes_79 ?_
          refine ga_icmp_lt 106 dX10_hourGoes_80 (by decide) (fun c_80 => ?_) (fun c_80 => ?_)
          · have hv : (K 5 t ≤ gx_dep K (gx_sb K (gx_wind K V m) t) ((gx_sb K (gx_wind K V m) t) 4 t) ∧ K 5 t ≤ gx_dep K (gx_sb K (gx_wind K V m) t) q9 ∧ (gx_sb K (gx_wind K V m) t) 4 t = q9) ∨ (¬ (K 5 t ≤ gx_dep K (gx_sb K (gx_wind K V m) t) ((gx_sb K (gx_wind K V m) t) 4 t) ∧ K 5 t ≤ gx_dep K (gx_sb K (gx_wind K V m) t) q9) ∧ (gx_sb K (gx_wind K V m) t) 4 t = (gx_sb K (gx_wind K V m) t) 4 t) := Or.inr ⟨fun z => absurd (nI_le z.1 (by omega)) (Int32.not_le.mpr c_80), rfl⟩
            refine ga_iconst (nI 0) dX10_hourGoes_106 (by decide) ?_
            refine gs_istore [(0, _), (1, _), (2, _), (3, _), (4, _), (5, _)] dX10_hourGoes_107 (by decide) rfl rfl ?_
            refine ga_aload_n 1 dX10_hourGoes_109 rfl ?_
            refine ga_bipush (nI 19) dX10_hourGoes_110 (by decide) ?_
            refine ga_iload_n 2 dX10_hourGoes_112 rfl ?_
            refine ga_iadd dX10_hourGoes_113 ?_
            refine ga_iload 5 dX10_hourGoes_114 rfl ?_
            refine ga_if_eq 124 dX10_hourGoes_116 (by decide) (fun c_116 => ?_) (fun c_116 => absurd nI_0 c_116)
            refine ga_iload_n 3 dX10_hourGoes_124 rfl ?_
            refine gmw_S4 (shA ha) hV kw (by omega) dX10_hourGoes_125 (fun w_125 o_125 hV => ?_)
            refine gs_iincN 2 1 [(0, _), (1, _), (2, _), (3, _), (4, _), (5, _)] dX10_hourGoes_126 rfl (by decide) (by decide) rfl rfl ?_
            refine ga_goto 7 dX10_hourGoes_129 (by decide) ?_
            refine ga_take 3 ?_
            exact ih (t + 1) (by omega) _ (fun b hb => (o_125 b hb).trans (o1 b hb)) (by have e9 := gx_sail_m hq hv; show gx_ms _ K (gx_sail K (gx_sb K (gx_wind K V m) t) t) m; rw [e9]; exact hV)
          · have hd1 : K 5 t ≤ gx_dep K (gx_sb K (gx_wind K V m) t) ((gx_sb K (gx_wind K V m) t) 4 t) := Nat.not_lt.mp (fun q => c_80 (nI_lt q (by omega)))
            refine ga_aload_n 0 dX10_hourGoes_83 rfl ?_
            refine ga_aload_n 1 dX10_hourGoes_84 rfl ?_
            refine ga_iload 4 dX10_hourGoes_85 rfl ?_
            refine ga_V2 km_X10_166 kv_X10_depthOn (c_X10_depthOn hM kw ha hV hu hq0) (sh161 _) rfl rfl (gt_rc0 (by decide)) (Nat.le_of_ble_eq_true rfl) dX10_hourGoes_87 ?_
            refine ga_aload_n 0 dX10_hourGoes_90 rfl ?_
            refine ga_get kf_X10_7 (sh161 _) rfl dX10_hourGoes_91 ?_
            refine ga_bipush (nI 32) dX10_hourGoes_94 (by decide) ?_
            refine ga_iload_n 2 dX10_hourGoes_96 rfl ?_
            refine ga_iadd dX10_hourGoes_97 ?_
            refine gm_C5 hM kw (by omega) dX10_hourGoes_98 ?_
            have hdl2 := hdl q9
            refine ga_icmp_lt 106 dX10_hourGoes_99 (by decide) (fun c_99 => ?_) (fun c_99 => ?_)
            · have hv : (K 5 t ≤ gx_dep K (gx_sb K (gx_wind K V m) t) ((gx_sb K (gx_wind K V m) t) 4 t) ∧ K 5 t ≤ gx_dep K (gx_sb K (gx_wind K V m) t) q9 ∧ (gx_sb K (gx_wind K V m) t) 4 t = q9) ∨ (¬ (K 5 t ≤ gx_dep K (gx_sb K (gx_wind K V m) t) ((gx_sb K (gx_wind K V m) t) 4 t) ∧ K 5 t ≤ gx_dep K (gx_sb K (gx_wind K V m) t) q9) ∧ (gx_sb K (gx_wind K V m) t) 4 t = (gx_sb K (gx_wind K V m) t) 4 t) := Or.inr ⟨fun z => absurd (nI_le z.2 (by omega)) (Int32.not_le.mpr c_99), rfl⟩
              refine ga_iconst (nI 0) dX10_hourGoes_106 (by decide) ?_
              refine gs_istore [(0, _), (1, _), (2, _), (3, _), (4, _), (5, _)] dX10_hourGoes_107 (by decide) rfl rfl ?_
              refine ga_aload_n 1 dX10_hourGoes_109 rfl ?_
              refine ga_bipush (nI 19) dX10_hourGoes_110 (by decide) ?_
              refine ga_iload_n 2 dX10_hourGoes_112 rfl ?_
              refine ga_iadd dX10_hourGoes_113 ?_
              refine ga_iload 5 dX10_hourGoes_114 rfl ?_
              refine ga_if_eq 124 dX10_hourGoes_116 (by decide) (fun c_116 => ?_) (fun c_116 => absurd nI_0 c_116)
              refine ga_iload_n 3 dX10_hourGoes_124 rfl ?_
              refine gmw_S4 (shA ha) hV kw (by omega) dX10_hourGoes_125 (fun w_125 o_125 hV => ?_)
              refine gs_iincN 2 1 [(0, _), (1, _), (2, _), (3, _), (4, _), (5, _)] dX10_hourGoes_126 rfl (by decide) (by decide) rfl rfl ?_
              refine ga_goto 7 dX10_hourGoes_129 (by decide) ?_
              refine ga_take 3 ?_
              exact ih (t + 1) (by omega) _ (fun b hb => (o_125 b hb).trans (o1 b hb)) (by have e9 := gx_sail_m hq hv; show gx_ms _ K (gx_sail K (gx_sb K (gx_wind K V m) t) t) m; rw [e9]; exact hV)
            · have hv : (K 5 t ≤ gx_dep K (gx_sb K (gx_wind K V m) t) ((gx_sb K (gx_wind K V m) t) 4 t) ∧ K 5 t ≤ gx_dep K (gx_sb K (gx_wind K V m) t) q9 ∧ q9 = q9) ∨ (¬ (K 5 t ≤ gx_dep K (gx_sb K (gx_wind K V m) t) ((gx_sb K (gx_wind K V m) t) 4 t) ∧ K 5 t ≤ gx_dep K (gx_sb K (gx_wind K V m) t) q9) ∧ q9 = (gx_sb K (gx_wind K V m) t) 4 t) := Or.inl ⟨hd1, Nat.not_lt.mp (fun q => c_99 (nI_lt q (by omega))), rfl⟩
              refine ga_iconst (nI 1) dX10_hourGoes_102 (by decide) ?_
              refine ga_goto 107 dX10_hourGoes_103 (by decide) ?_
              refine gs_istore [(0, _), (1, _), (2, _), (3, _), (4, _), (5, _)] dX10_hourGoes_107 (by decide) rfl rfl ?_
              refine ga_aload_n 1 dX10_hourGoes_109 rfl ?_
              refine ga_bipush (nI 19) dX10_hourGoes_110 (by decide) ?_
              refine ga_iload_n 2 dX10_hourGoes_112 rfl ?_
              refine ga_iadd dX10_hourGoes_113 ?_
              refine ga_iload 5 dX10_hourGoes_114 rfl ?_
              refine ga_if_eq 124 dX10_hourGoes_116 (by decide) (fun c_116 => absurd c_116 (by decide)) (fun c_116 => ?_)
              refine ga_iload 4 dX10_hourGoes_119 rfl ?_
              refine ga_goto 125 dX10_hourGoes_121 (by decide) ?_
              refine gmw_S4 (shA ha) hV kw (by omega) dX10_hourGoes_125 (fun w_125 o_125 hV => ?_)
              refine gs_iincN 2 1 [(0, _), (1, _), (2, _), (3, _), (4, _), (5, _)] dX10_hourGoes_126 rfl (by decide) (by decide) rfl rfl ?_
              refine ga_goto 7 dX10_hourGoes_129 (by decide) ?_
              refine ga_take 3 ?_
              exact ih (t + 1) (by omega) _ (fun b hb => (o_125 b hb).trans (o1 b hb)) (by have e9 := gx_sail_m hq hv; show gx_ms _ K (gx_sail K (gx_sb K (gx_wind K V m) t) t) m; rw [e9]; exact hV)
        · have hgt : K 7 t < (gx_sb K (gx_wind K V m) t) 4 t := Nat.not_le.mp (fun q => c_53 (nI_le q (by omega)))
          refine ga_iload_n 3 dX10_hourGoes_56 rfl ?_
          refine ga_iconst (nI 1) dX10_hourGoes_57 (by decide) ?_
          refine ga_isub dX10_hourGoes_58 ?_
          refine ga_top (nI ((gx_sb K (gx_wind K V m) t) 4 t - 1)) (pk_sub (by omega)) ?_
          have hq : ((gx_sb K (gx_wind K V m) t) 4 t = K 7 t ∧ ((gx_sb K (gx_wind K V m) t) 4 t - 1) = (gx_sb K (gx_wind K V m) t) 4 t) ∨ (¬ (gx_sb K (gx_wind K V m) t) 4 t = K 7 t ∧ ((gx_sb K (gx_wind K V m) t) 4 t - 1) = gx_next K (gx_sb K (gx_wind K V m) t) t) := Or.inr ⟨by omega, by unfold gx_next; rw [if_neg (by omega)]⟩
          generalize hq9 : (gx_sb K (gx_wind K V m) t) 4 t - 1 = q9 at hq ⊢
          have hq0 : q9 < K 0 0 := by omega
          refine ga_goto 63 dX10_hourGoes_59 (by decide) ?_
          refine gs_istore [(0, _), (1, _), (2, _), (3, _), (4, _)] dX10_hourGoes_63 (by decide) rfl rfl ?_
          refine ga_aload_n 0 dX10_hourGoes_65 rfl ?_
          refine ga_aload_n 1 dX10_hourGoes_66 rfl ?_
          refine ga_iload_n 3 dX10_hourGoes_67 rfl ?_
          refine ga_V2 km_X10_166 kv_X10_depthOn (c_X10_depthOn hM kw ha hV hu (by omega)) (sh161 _) rfl rfl (gt_rc0 (by decide)) (Nat.le_of_ble_eq_true rfl) dX10_hourGoes_68 ?_
          refine ga_aload_n 0 dX10_hourGoes_71 rfl ?_
          refine ga_get kf_X10_7 (sh161 _) rfl dX10_hourGoes_72 ?_
          refine ga_bipush (nI 32) dX10_hourGoes_75 (by decide) ?_
          refine ga_iload_n 2 dX10_hourGoes_77 rfl ?_
          refine ga_iadd dX10_hourGoes_78 ?_
          refine gm_C5 hM kw (by omega) dX10_hourGoes_79 ?_
          refine ga_icmp_lt 106 dX10_hourGoes_80 (by decide) (fun c_80 => ?_) (fun c_80 => ?_)
          · have hv : (K 5 t ≤ gx_dep K (gx_sb K (gx_wind K V m) t) ((gx_sb K (gx_wind K V m) t) 4 t) ∧ K 5 t ≤ gx_dep K (gx_sb K (gx_wind K V m) t) q9 ∧ (gx_sb K (gx_wind K V m) t) 4 t = q9) ∨ (¬ (K 5 t ≤ gx_dep K (gx_sb K (gx_wind K V m) t) ((gx_sb K (gx_wind K V m) t) 4 t) ∧ K 5 t ≤ gx_dep K (gx_sb K (gx_wind K V m) t) q9) ∧ (gx_sb K (gx_wind K V m) t) 4 t = (gx_sb K (gx_wind K V m) t) 4 t) := Or.inr ⟨fun z => absurd (nI_le z.1 (by omega)) (Int32.not_le.mpr c_80), rfl⟩
            refine ga_iconst (nI 0) dX10_hourGoes_106 (by decide) ?_
            refine gs_istore [(0, _), (1, _), (2, _), (3, _), (4, _), (5, _)] dX10_hourGoes_107 (by decide) rfl rfl ?_
            refine ga_aload_n 1 dX10_hourGoes_109 rfl ?_
            refine ga_bipush (nI 19) dX10_hourGoes_110 (by decide) ?_
            refine ga_iload_n 2 dX10_hourGoes_112 rfl ?_
            refine ga_iadd dX10_hourGoes_113 ?_
            refine ga_iload 5 dX10_hourGoes_114 rfl ?_
            refine ga_if_eq 124 dX10_hourGoes_116 (by decide) (fun c_116 => ?_) (fun c_116 => absurd nI_0 c_116)
            refine ga_iload_n 3 dX10_hourGoes_124 rfl ?_
            refine gmw_S4 (shA ha) hV kw (by omega) dX10_hourGoes_125 (fun w_125 o_125 hV => ?_)
            refine gs_iincN 2 1 [(0, _), (1, _), (2, _), (3, _), (4, _), (5, _)] dX10_hourGoes_126 rfl (by decide) (by decide) rfl rfl ?_
            refine ga_goto 7 dX10_hourGoes_129 (by decide) ?_
            refine ga_take 3 ?_
            exact ih (t + 1) (by omega) _ (fun b hb => (o_125 b hb).trans (o1 b hb)) (by have e9 := gx_sail_m hq hv; show gx_ms _ K (gx_sail K (gx_sb K (gx_wind K V m) t) t) m; rw [e9]; exact hV)
          · have hd1 : K 5 t ≤ gx_dep K (gx_sb K (gx_wind K V m) t) ((gx_sb K (gx_wind K V m) t) 4 t) := Nat.not_lt.mp (fun q => c_80 (nI_lt q (by omega)))
            refine ga_aload_n 0 dX10_hourGoes_83 rfl ?_
            refine ga_aload_n 1 dX10_hourGoes_84 rfl ?_
            refine ga_iload 4 dX10_hourGoes_85 rfl ?_
            refine ga_V2 km_X10_166 kv_X10_depthOn (c_X10_depthOn hM kw ha hV hu hq0) (sh161 _) rfl rfl (gt_rc0 (by decide)) (Nat.le_of_ble_eq_true rfl) dX10_hourGoes_87 ?_
            refine ga_aload_n 0 dX10_hourGoes_90 rfl ?_
            refine ga_get kf_X10_7 (sh161 _) rfl dX10_hourGoes_91 ?_
            refine ga_bipush (nI 32) dX10_hourGoes_94 (by decide) ?_
            refine ga_iload_n 2 dX10_hourGoes_96 rfl ?_
            refine ga_iadd dX10_hourGoes_97 ?_
            refine gm_C5 hM kw (by omega) dX10_hourGoes_98 ?_
            have hdl2 := hdl q9
            refine ga_icmp_lt 106 dX10_hourGoes_99 (by decide) (fun c_99 => ?_) (fun c_99 => ?_)
            · have hv : (K 5 t ≤ gx_dep K (gx_sb K (gx_wind K V m) t) ((gx_sb K (gx_wind K V m) t) 4 t) ∧ K 5 t ≤ gx_dep K (gx_sb K (gx_wind K V m) t) q9 ∧ (gx_sb K (gx_wind K V m) t) 4 t = q9) ∨ (¬ (K 5 t ≤ gx_dep K (gx_sb K (gx_wind K V m) t) ((gx_sb K (gx_wind K V m) t) 4 t) ∧ K 5 t ≤ gx_dep K (gx_sb K (gx_wind K V m) t) q9) ∧ (gx_sb K (gx_wind K V m) t) 4 t = (gx_sb K (gx_wind K V m) t) 4 t) := Or.inr ⟨fun z => absurd (nI_le z.2 (by omega)) (Int32.not_le.mpr c_99), rfl⟩
              refine ga_iconst (nI 0) dX10_hourGoes_106 (by decide) ?_
              refine gs_istore [(0, _), (1, _), (2, _), (3, _), (4, _), (5, _)] dX10_hourGoes_107 (by decide) rfl rfl ?_
              refine ga_aload_n 1 dX10_hourGoes_109 rfl ?_
              refine ga_bipush (nI 19) dX10_hourGoes_110 (by decide) ?_
              refine ga_iload_n 2 dX10_hourGoes_112 rfl ?_
              refine ga_iadd dX10_hourGoes_113 ?_
              refine ga_iload 5 dX10_hourGoes_114 rfl ?_
              refine ga_if_eq 124 dX10_hourGoes_116 (by decide) (fun c_116 => ?_) (fun c_116 => absurd nI_0 c_116)
              refine ga_iload_n 3 dX10_hourGoes_124 rfl ?_
              refine gmw_S4 (shA ha) hV kw (by omega) dX10_hourGoes_125 (fun w_125 o_125 hV => ?_)
              refine gs_iincN 2 1 [(0, _), (1, _), (2, _), (3, _), (4, _), (5, _)] dX10_hourGoes_126 rfl (by decide) (by decide) rfl rfl ?_
              refine ga_goto 7 dX10_hourGoes_129 (by decide) ?_
              refine ga_take 3 ?_
              exact ih (t + 1) (by omega) _ (fun b hb => (o_125 b hb).trans (o1 b hb)) (by have e9 := gx_sail_m hq hv; show gx_ms _ K (gx_sail K (gx_sb K (gx_wind K V m) t) t) m; rw [e9]; exact hV)
            · have hv : (K 5 t ≤ gx_dep K (gx_sb K (gx_wind K V m) t) ((gx_sb K (gx_wind K V m) t) 4 t) ∧ K 5 t ≤ gx_dep K (gx_sb K (gx_wind K V m) t) q9 ∧ q9 = q9) ∨ (¬ (K 5 t ≤ gx_dep K (gx_sb K (gx_wind K V m) t) ((gx_sb K (gx_wind K V m) t) 4 t) ∧ K 5 t ≤ gx_dep K (gx_sb K (gx_wind K V m) t) q9) ∧ q9 = (gx_sb K (gx_wind K V m) t) 4 t) := Or.inl ⟨hd1, Nat.not_lt.mp (fun q => c_99 (nI_lt q (by omega))), rfl⟩
              refine ga_iconst (nI 1) dX10_hourGoes_102 (by decide) ?_
              refine ga_goto 107 dX10_hourGoes_103 (by decide) ?_
              refine gs_istore [(0, _), (1, _), (2, _), (3, _), (4, _), (5, _)] dX10_hourGoes_107 (by decide) rfl rfl ?_
              refine ga_aload_n 1 dX10_hourGoes_109 rfl ?_
              refine ga_bipush (nI 19) dX10_hourGoes_110 (by decide) ?_
              refine ga_iload_n 2 dX10_hourGoes_112 rfl ?_
              refine ga_iadd dX10_hourGoes_113 ?_
              refine ga_iload 5 dX10_hourGoes_114 rfl ?_
              refine ga_if_eq 124 dX10_hourGoes_116 (by decide) (fun c_116 => absurd c_116 (by decide)) (fun c_116 => ?_)
              refine ga_iload 4 dX10_hourGoes_119 rfl ?_
              refine ga_goto 125 dX10_hourGoes_121 (by decide) ?_
              refine gmw_S4 (shA ha) hV kw (by omega) dX10_hourGoes_125 (fun w_125 o_125 hV => ?_)
              refine gs_iincN 2 1 [(0, _), (1, _), (2, _), (3, _), (4, _), (5, _)] dX10_hourGoes_126 rfl (by decide) (by decide) rfl rfl ?_
              refine ga_goto 7 dX10_hourGoes_129 (by decide) ?_
              refine ga_take 3 ?_
              exact ih (t + 1) (by omega) _ (fun b hb => (o_125 b hb).trans (o1 b hb)) (by have e9 := gx_sail_m hq hv; show gx_ms _ K (gx_sail K (gx_sb K (gx_wind K V m) t) t) m; rw [e9]; exact hV)
      · have hlt : (gx_sb K (gx_wind K V m) t) 4 t < K 7 t := Nat.not_le.mp (fun q => c_34 (nI_le q (by omega)))
        refine ga_iload_n 3 dX10_hourGoes_37 rfl ?_
        refine ga_iconst (nI 1) dX10_hourGoes_38 (by decide) ?_
        refine ga_iadd dX10_hourGoes_39 ?_
        refine ga_top (nI ((gx_sb K (gx_wind K V m) t) 4 t + 1)) (nI_add _ _) ?_
        have hq : ((gx_sb K (gx_wind K V m) t) 4 t = K 7 t ∧ ((gx_sb K (gx_wind K V m) t) 4 t + 1) = (gx_sb K (gx_wind K V m) t) 4 t) ∨ (¬ (gx_sb K (gx_wind K V m) t) 4 t = K 7 t ∧ ((gx_sb K (gx_wind K V m) t) 4 t + 1) = gx_next K (gx_sb K (gx_wind K V m) t) t) := Or.inr ⟨by omega, by unfold gx_next; rw [if_pos hlt]⟩
        generalize hq9 : (gx_sb K (gx_wind K V m) t) 4 t + 1 = q9 at hq ⊢
        have hq0 : q9 < K 0 0 := by omega
        refine ga_goto 63 dX10_hourGoes_40 (by decide) ?_
        refine gs_istore [(0, _), (1, _), (2, _), (3, _), (4, _)] dX10_hourGoes_63 (by decide) rfl rfl ?_
        refine ga_aload_n 0 dX10_hourGoes_65 rfl ?_
        refine ga_aload_n 1 dX10_hourGoes_66 rfl ?_
        refine ga_iload_n 3 dX10_hourGoes_67 rfl ?_
        refine ga_V2 km_X10_166 kv_X10_depthOn (c_X10_depthOn hM kw ha hV hu (by omega)) (sh161 _) rfl rfl (gt_rc0 (by decide)) (Nat.le_of_ble_eq_true rfl) dX10_hourGoes_68 ?_
        refine ga_aload_n 0 dX10_hourGoes_71 rfl ?_
        refine ga_get kf_X10_7 (sh161 _) rfl dX10_hourGoes_72 ?_
        refine ga_bipush (nI 32) dX10_hourGoes_75 (by decide) ?_
        refine ga_iload_n 2 dX10_hourGoes_77 rfl ?_
        refine ga_iadd dX10_hourGoes_78 ?_
        refine gm_C5 hM kw (by omega) dX10_hourGoes_79 ?_
        refine ga_icmp_lt 106 dX10_hourGoes_80 (by decide) (fun c_80 => ?_) (fun c_80 => ?_)
        · have hv : (K 5 t ≤ gx_dep K (gx_sb K (gx_wind K V m) t) ((gx_sb K (gx_wind K V m) t) 4 t) ∧ K 5 t ≤ gx_dep K (gx_sb K (gx_wind K V m) t) q9 ∧ (gx_sb K (gx_wind K V m) t) 4 t = q9) ∨ (¬ (K 5 t ≤ gx_dep K (gx_sb K (gx_wind K V m) t) ((gx_sb K (gx_wind K V m) t) 4 t) ∧ K 5 t ≤ gx_dep K (gx_sb K (gx_wind K V m) t) q9) ∧ (gx_sb K (gx_wind K V m) t) 4 t = (gx_sb K (gx_wind K V m) t) 4 t) := Or.inr ⟨fun z => absurd (nI_le z.1 (by omega)) (Int32.not_le.mpr c_80), rfl⟩
          refine ga_iconst (nI 0) dX10_hourGoes_106 (by decide) ?_
          refine gs_istore [(0, _), (1, _), (2, _), (3, _), (4, _), (5, _)] dX10_hourGoes_107 (by decide) rfl rfl ?_
          refine ga_aload_n 1 dX10_hourGoes_109 rfl ?_
          refine ga_bipush (nI 19) dX10_hourGoes_110 (by decide) ?_
          refine ga_iload_n 2 dX10_hourGoes_112 rfl ?_
          refine ga_iadd dX10_hourGoes_113 ?_
          refine ga_iload 5 dX10_hourGoes_114 rfl ?_
          refine ga_if_eq 124 dX10_hourGoes_116 (by decide) (fun c_116 => ?_) (fun c_116 => absurd nI_0 c_116)
          refine ga_iload_n 3 dX10_hourGoes_124 rfl ?_
          refine gmw_S4 (shA ha) hV kw (by omega) dX10_hourGoes_125 (fun w_125 o_125 hV => ?_)
          refine gs_iincN 2 1 [(0, _), (1, _), (2, _), (3, _), (4, _), (5, _)] dX10_hourGoes_126 rfl (by decide) (by decide) rfl rfl ?_
          refine ga_goto 7 dX10_hourGoes_129 (by decide) ?_
          refine ga_take 3 ?_
          exact ih (t + 1) (by omega) _ (fun b hb => (o_125 b hb).trans (o1 b hb)) (by have e9 := gx_sail_m hq hv; show gx_ms _ K (gx_sail K (gx_sb K (gx_wind K V m) t) t) m; rw [e9]; exact hV)
        · have hd1 : K 5 t ≤ gx_dep K (gx_sb K (gx_wind K V m) t) ((gx_sb K (gx_wind K V m) t) 4 t) := Nat.not_lt.mp (fun q => c_80 (nI_lt q (by omega)))
          refine ga_aload_n 0 dX10_hourGoes_83 rfl ?_
          refine ga_aload_n 1 dX10_hourGoes_84 rfl ?_
          refine ga_iload 4 dX10_hourGoes_85 rfl ?_
          refine ga_V2 km_X10_166 kv_X10_depthOn (c_X10_depthOn hM kw ha hV hu hq0) (sh161 _) rfl rfl (gt_rc0 (by decide)) (Nat.le_of_ble_eq_true rfl) dX10_hourGoes_87 ?_
          refine ga_aload_n 0 dX10_hourGoes_90 rfl ?_
          refine ga_get kf_X10_7 (sh161 _) rfl dX10_hourGoes_91 ?_
          refine ga_bipush (nI 32) dX10_hourGoes_94 (by decide) ?_
          refine ga_iload_n 2 dX10_hourGoes_96 rfl ?_
          refine ga_iadd dX10_hourGoes_97 ?_
          refine gm_C5 hM kw (by omega) dX10_hourGoes_98 ?_
          have hdl2 := hdl q9
          refine ga_icmp_lt 106 dX10_hourGoes_99 (by decide) (fun c_99 => ?_) (fun c_99 => ?_)
          · have hv : (K 5 t ≤ gx_dep K (gx_sb K (gx_wind K V m) t) ((gx_sb K (gx_wind K V m) t) 4 t) ∧ K 5 t ≤ gx_dep K (gx_sb K (gx_wind K V m) t) q9 ∧ (gx_sb K (gx_wind K V m) t) 4 t = q9) ∨ (¬ (K 5 t ≤ gx_dep K (gx_sb K (gx_wind K V m) t) ((gx_sb K (gx_wind K V m) t) 4 t) ∧ K 5 t ≤ gx_dep K (gx_sb K (gx_wind K V m) t) q9) ∧ (gx_sb K (gx_wind K V m) t) 4 t = (gx_sb K (gx_wind K V m) t) 4 t) := Or.inr ⟨fun z => absurd (nI_le z.2 (by omega)) (Int32.not_le.mpr c_99), rfl⟩
            refine ga_iconst (nI 0) dX10_hourGoes_106 (by decide) ?_
            refine gs_istore [(0, _), (1, _), (2, _), (3, _), (4, _), (5, _)] dX10_hourGoes_107 (by decide) rfl rfl ?_
            refine ga_aload_n 1 dX10_hourGoes_109 rfl ?_
            refine ga_bipush (nI 19) dX10_hourGoes_110 (by decide) ?_
            refine ga_iload_n 2 dX10_hourGoes_112 rfl ?_
            refine ga_iadd dX10_hourGoes_113 ?_
            refine ga_iload 5 dX10_hourGoes_114 rfl ?_
            refine ga_if_eq 124 dX10_hourGoes_116 (by decide) (fun c_116 => ?_) (fun c_116 => absurd nI_0 c_116)
            refine ga_iload_n 3 dX10_hourGoes_124 rfl ?_
            refine gmw_S4 (shA ha) hV kw (by omega) dX10_hourGoes_125 (fun w_125 o_125 hV => ?_)
            refine gs_iincN 2 1 [(0, _), (1, _), (2, _), (3, _), (4, _), (5, _)] dX10_hourGoes_126 rfl (by decide) (by decide) rfl rfl ?_
            refine ga_goto 7 dX10_hourGoes_129 (by decide) ?_
            refine ga_take 3 ?_
            exact ih (t + 1) (by omega) _ (fun b hb => (o_125 b hb).trans (o1 b hb)) (by have e9 := gx_sail_m hq hv; show gx_ms _ K (gx_sail K (gx_sb K (gx_wind K V m) t) t) m; rw [e9]; exact hV)
          · have hv : (K 5 t ≤ gx_dep K (gx_sb K (gx_wind K V m) t) ((gx_sb K (gx_wind K V m) t) 4 t) ∧ K 5 t ≤ gx_dep K (gx_sb K (gx_wind K V m) t) q9 ∧ q9 = q9) ∨ (¬ (K 5 t ≤ gx_dep K (gx_sb K (gx_wind K V m) t) ((gx_sb K (gx_wind K V m) t) 4 t) ∧ K 5 t ≤ gx_dep K (gx_sb K (gx_wind K V m) t) q9) ∧ q9 = (gx_sb K (gx_wind K V m) t) 4 t) := Or.inl ⟨hd1, Nat.not_lt.mp (fun q => c_99 (nI_lt q (by omega))), rfl⟩
            refine ga_iconst (nI 1) dX10_hourGoes_102 (by decide) ?_
            refine ga_goto 107 dX10_hourGoes_103 (by decide) ?_
            refine gs_istore [(0, _), (1, _), (2, _), (3, _), (4, _), (5, _)] dX10_hourGoes_107 (by decide) rfl rfl ?_
            refine ga_aload_n 1 dX10_hourGoes_109 rfl ?_
            refine ga_bipush (nI 19) dX10_hourGoes_110 (by decide) ?_
            refine ga_iload_n 2 dX10_hourGoes_112 rfl ?_
            refine ga_iadd dX10_hourGoes_113 ?_
            refine ga_iload 5 dX10_hourGoes_114 rfl ?_
            refine ga_if_eq 124 dX10_hourGoes_116 (by decide) (fun c_116 => absurd c_116 (by decide)) (fun c_116 => ?_)
            refine ga_iload 4 dX10_hourGoes_119 rfl ?_
            refine ga_goto 125 dX10_hourGoes_121 (by decide) ?_
            refine gmw_S4 (shA ha) hV kw (by omega) dX10_hourGoes_125 (fun w_125 o_125 hV => ?_)
            refine gs_iincN 2 1 [(0, _), (1, _), (2, _), (3, _), (4, _), (5, _)] dX10_hourGoes_126 rfl (by decide) (by decide) rfl rfl ?_
            refine ga_goto 7 dX10_hourGoes_129 (by decide) ?_
            refine ga_take 3 ?_
            exact ih (t + 1) (by omega) _ (fun b hb => (o_125 b hb).trans (o1 b hb)) (by have e9 := gx_sail_m hq hv; show gx_ms _ K (gx_sail K (gx_sb K (gx_wind K V m) t) t) m; rw [e9]; exact hV)
  exact loop (K 0 3) 0 (by omega) _ o0 hV
set_option maxRecDepth 100000 in
set_option maxHeartbeats 4000000 in
theorem c_X10_layAside {l : Launch} {G : gt_G} {n : Nat} {w : gt_W}  : gt_D l G yX10_layAside cX10_layAside 1 none 2 n [.ref 161] w (fun r w' => r = none ∧ (∀ b, b ≠ 165 → w' b = w b) ∧ ∀ (K V : gx_K) (m : Int32), gx_KW K → gx_ms (w 164) K V m → gx_ms (w' 165) K V m) := by
  refine gt_D_of (own := RX10) (nm := "layAside") rfl rfl (by decide +kernel) (Nat.le_of_ble_eq_true rfl) ?_
  show gt_A _ _ _ _ _ _ _ _ _ _ _ [(0, .ref 161)] _ _
  refine ga_aload_n 0 dX10_layAside_0 rfl ?_
  refine ga_get kf_X10_16 (sh161 _) rfl dX10_layAside_1 ?_
  refine ga_iconst (nI 0) dX10_layAside_4 (by decide) ?_
  refine ga_aload_n 0 dX10_layAside_5 rfl ?_
  refine ga_get kf_X10_19 (sh161 _) rfl dX10_layAside_6 ?_
  refine ga_iconst (nI 0) dX10_layAside_9 (by decide) ?_
  refine ga_bipush (nI 24) dX10_layAside_10 (by decide) ?_
  refine ga_S5 km_X10_68 kv_X10_copies (c_X10_copies (i := 0) (j := 0) (N := 24) sh164 sh165 (by decide) (by decide) (by decide) (by decide) (by decide)) (gt_rc0 (by decide)) (Nat.le_of_ble_eq_true rfl) dX10_layAside_12 ?_
  exact gd_vret dX10_layAside_15 ⟨rfl, fun b hb => gt_wr_ne _ _ hb, fun K V m kw h => gx_ms_eq kw (fun i hi => by rw [gt_wr_eq]; have := gx_cp_in (f := w 164) (g := w 165) (i := 0) (j := 0) (n := 24) hi; rw [Nat.zero_add] at this; exact this) h⟩
set_option maxRecDepth 100000 in
set_option maxHeartbeats 4000000 in
theorem c_X10_sleeps {l : Launch} {G : gt_G} {n : Nat} {w : gt_W} {K V : gx_K} {m : Int32} (kw : gx_KW K) (hV : gx_ms (w 164) K V m) (p b : Int32) : gt_D l G yX10_sleeps cX10_sleeps 3 none 1 n [.ref 161, .int p, .int b] w (fun r w' => r = none ∧ (∀ b, b ≠ 164 → w' b = w b) ∧ gx_ms (w' 164) K V (gx_slep m p b)) := by
  refine gt_D_of (own := RX10) (nm := "sleeps") rfl rfl (by decide +kernel) (Nat.le_of_ble_eq_true rfl) ?_
  show gt_A _ _ _ _ _ _ _ _ _ _ _ [(0, .ref 161), (1, .int p), (2, .int b)] _ _
  refine ga_aload_n 0 dX10_sleeps_0 rfl ?_
  refine ga_get kf_X10_16 (sh161 _) rfl dX10_sleeps_1 ?_
  refine ga_bipush (nI 18) dX10_sleeps_4 (by decide) ?_
  refine ga_iload_n 2 dX10_sleeps_6 rfl ?_
  refine ga_if_eq 24 dX10_sleeps_7 (by decide) (fun c_7 => ?_) (fun c_7 => ?_)
  · refine ga_aload_n 0 dX10_sleeps_24 rfl ?_
    refine ga_get kf_X10_16 (sh161 _) rfl dX10_sleeps_25 ?_
    refine ga_bipush (nI 18) dX10_sleeps_28 (by decide) ?_
    refine gm_sm sh164 hV dX10_sleeps_30 ?_
    refine ga_iconst (nI 1) dX10_sleeps_31 (by decide) ?_
    refine ga_iload_n 1 dX10_sleeps_32 rfl ?_
    refine ga_ishl dX10_sleeps_33 ?_
    refine ga_iconst ((-1)) dX10_sleeps_34 (by decide) ?_
    refine ga_ixor dX10_sleeps_35 ?_
    refine ga_iand dX10_sleeps_36 ?_
    refine gmw_sm sh164 hV kw dX10_sleeps_37 (fun w_37 o_37 hV => ?_)
    exact gd_vret dX10_sleeps_38 ⟨rfl, o_37, by unfold gx_slep; first | (rw [if_pos c_7]; exact hV) | (rw [if_neg c_7]; exact hV)⟩
  · refine ga_aload_n 0 dX10_sleeps_10 rfl ?_
    refine ga_get kf_X10_16 (sh161 _) rfl dX10_sleeps_11 ?_
    refine ga_bipush (nI 18) dX10_sleeps_14 (by decide) ?_
    refine gm_sm sh164 hV dX10_sleeps_16 ?_
    refine ga_iconst (nI 1) dX10_sleeps_17 (by decide) ?_
    refine ga_iload_n 1 dX10_sleeps_18 rfl ?_
    refine ga_ishl dX10_sleeps_19 ?_
    refine ga_ior dX10_sleeps_20 ?_
    refine ga_goto 37 dX10_sleeps_21 (by decide) ?_
    refine gmw_sm sh164 hV kw dX10_sleeps_37 (fun w_37 o_37 hV => ?_)
    exact gd_vret dX10_sleeps_38 ⟨rfl, o_37, by unfold gx_slep; first | (rw [if_pos c_7]; exact hV) | (rw [if_neg c_7]; exact hV)⟩
set_option maxRecDepth 100000 in
set_option maxHeartbeats 4000000 in
theorem c_X10_refuses {l : Launch} {G : gt_G} {n : Nat} {w : gt_W} {K V : gx_K} {m : Int32} (hM : gx_mc (w 162) K) (kw : gx_KW K) (hV : gx_ms (w 164) K V m) (vw : gx_VW K V) (hh : V 0 0 ≤ 9060) (a9 : Int32) : gt_C l G yX10_refuses cX10_refuses 2 (some .int) 2 0 0 n [.ref 161, .int a9] (gt_enc w) (some (.int (gx_refuse K V a9))) (gt_enc (w)) := by
  refine gt_C_of (own := RX10) (nm := "refuses") rfl rfl (by decide +kernel) (Nat.le_of_ble_eq_true rfl) ?_
  show gt_A _ _ _ _ _ _ _ _ _ _ _ [(0, .ref 161), (1, .int a9)] _ _
  refine ga_iload_n 1 dX10_refuses_0 rfl ?_
  refine ga_i2l dX10_refuses_1 ?_
  refine ga_lconst 1 dX10_refuses_2 (by decide) ?_
  refine ga_ldc2_w kc_X10_219 dX10_refuses_3 ?_
  refine ga_S3 km_X10_64 kv_X10_in (c_X10_in (x := a9) (a := nI 1) (b := nI 60) rfl (by decide) (by decide)) (gt_rc0 (by decide)) (Nat.le_of_ble_eq_true rfl) dX10_refuses_6 ?_
  refine ga_if_ne 15 dX10_refuses_9 (by decide) (fun c_9 => ?_) (fun c_9 => ?_)
  · refine ga_aload_n 0 dX10_refuses_15 rfl ?_
    refine ga_get kf_X10_7 (sh161 _) rfl dX10_refuses_16 ?_
    refine ga_iconst (nI 0) dX10_refuses_19 (by decide) ?_
    refine gm_c0 hM dX10_refuses_20 ?_
    refine ga_if_ne 29 dX10_refuses_21 (by decide) (fun c_21 => ?_) (fun c_21 => ?_)
    · have hz : ¬ K 0 0 = 0 := fun q => c_21 (by rw [q]; rfl)
      refine ga_aload_n 0 dX10_refuses_29 rfl ?_
      refine ga_get kf_X10_16 (sh161 _) rfl dX10_refuses_30 ?_
      refine ga_bipush (nI 23) dX10_refuses_33 (by decide) ?_
      refine gm_sh sh164 hV dX10_refuses_35 ?_
      refine ga_sipush (nI 9000) dX10_refuses_36 (by decide) ?_
      refine ga_icmp_le 47 dX10_refuses_39 (by decide) (fun c_39 => ?_) (fun c_39 => ?_)
      · have hg : ¬ 9000 < V 0 0 := by have := (nI_leI (by omega) (by decide)).mp c_39; omega
        refine ga_iconst (nI 0) dX10_refuses_47 (by decide) ?_
        exact ga_iret dX10_refuses_48 (gv (by unfold gx_refuse; rw [if_neg c_9]; first | exact if_pos hz | (rw [if_neg hz]; first | exact if_pos hg | exact if_neg hg))) rfl
      · have hg : 9000 < V 0 0 := Nat.not_le.mp (fun q => c_39 (nI_le q (by omega)))
        refine ga_ldc kc_X10_90 dX10_refuses_42 ?_
        refine ga_goto 48 dX10_refuses_44 (by decide) ?_
        exact ga_iret dX10_refuses_48 (gv (by unfold gx_refuse; rw [if_neg c_9]; first | exact if_pos hz | (rw [if_neg hz]; first | exact if_pos hg | exact if_neg hg))) rfl
    · have hz : K 0 0 = 0 := (nI_eq (by have := kw.1; omega) (by decide)).mp (c_21.trans nI_0.symm)
      refine ga_ldc kc_X10_221 dX10_refuses_24 ?_
      refine ga_goto 48 dX10_refuses_26 (by decide) ?_
      exact ga_iret dX10_refuses_48 (gv (by unfold gx_refuse; rw [if_neg c_9]; first | exact if_pos hz | (rw [if_neg hz]; first | exact if_pos hg | exact if_neg hg))) rfl
  · refine ga_ldc kc_X10_86 dX10_refuses_12 ?_
    exact ga_iret dX10_refuses_14 (gv (by unfold gx_refuse; rw [if_pos c_9])) rfl
