/-- a player who turns -/
abbrev gx_act (V : gx_K) (m : Int32) (p : Nat) : Prop := ¬ V 2 p = 0 ∧ gx_slpB m (nI p) = 0
/-- the state when the first p players have had their hour -/
def gx_wp (K V : gx_K) (m : Int32) : Nat → gx_K
  | 0 => V
  | p + 1 => if gx_act V m p then gx_up (gx_up (gx_wp K V m p) 1 (V 2 p - 1) (gx_more (gx_wp K V m p 1 (V 2 p - 1)) (K 4 p) (gx_wp K V m p 3 p))) 3 p (min 99 (gx_wp K V m p 3 p + 1)) else gx_up (gx_wp K V m p) 3 p (gx_wp K V m p 3 p - 2)
/-- the towers held by the first p players -/
def gx_hp (V : gx_K) (m : Int32) : Nat → Int32
  | 0 => nI 0
  | p + 1 => if gx_act V m p then gx_hp V m p ||| (nI 1 <<< (nI (V 2 p - 1) &&& 31)) else gx_hp V m p
/-- the first t towers let down, if nobody held them -/
def gx_wt (U : gx_K) (h : Int32) : Nat → gx_K
  | 0 => U
  | t + 1 => if (h >>> (nI t &&& 31)) &&& nI 1 = 0 then gx_up (gx_wt U h t) 1 t (gx_wt U h t 1 t - 3) else gx_wt U h t
/-- the players' and towers' part of an hour -/
def gx_wind (K V : gx_K) (m : Int32) : gx_K := gx_wt (gx_wp K V m (K 0 2)) (gx_hp V m (K 0 2)) (K 0 1)
theorem gx_wp_t {K V : gx_K} {m : Int32} {p t : Nat} (h : gx_act V m p) (ht : V 2 p = t + 1) : gx_wp K V m (p + 1) = gx_up (gx_up (gx_wp K V m p) 1 t (gx_more (gx_wp K V m p 1 t) (K 4 p) (gx_wp K V m p 3 p))) 3 p (min 99 (gx_wp K V m p 3 p + 1)) := by
  have e : gx_wp K V m (p + 1) = _ := if_pos h
  rw [e, ht, Nat.add_sub_cancel]
theorem gx_wp_f {K V : gx_K} {m : Int32} {p : Nat} (h : ¬ gx_act V m p) : gx_wp K V m (p + 1) = gx_up (gx_wp K V m p) 3 p (gx_wp K V m p 3 p - 2) := if_neg h
theorem gx_hp_t {V : gx_K} {m : Int32} {p t : Nat} (h : gx_act V m p) (ht : V 2 p = t + 1) : gx_hp V m (p + 1) = gx_hp V m p ||| (nI 1 <<< (nI t &&& 31)) := by
  have e : gx_hp V m (p + 1) = _ := if_pos h
  rw [e, ht, Nat.add_sub_cancel]
theorem gx_hp_f {V : gx_K} {m : Int32} {p : Nat} (h : ¬ gx_act V m p) : gx_hp V m (p + 1) = gx_hp V m p := if_neg h
theorem gx_wt_t {U : gx_K} {h : Int32} {t : Nat} (q : (h >>> (nI t &&& 31)) &&& nI 1 = 0) : gx_wt U h (t + 1) = gx_up (gx_wt U h t) 1 t (gx_wt U h t 1 t - 3) := if_pos q
theorem gx_wt_f {U : gx_K} {h : Int32} {t : Nat} (q : ¬ (h >>> (nI t &&& 31)) &&& nI 1 = 0) : gx_wt U h (t + 1) = gx_wt U h t := if_neg q
theorem gx_wp_row {K V : gx_K} {m : Int32} {i : Nat} (h1 : i ≠ 1) (h3 : i ≠ 3) (j : Nat) : ∀ p, gx_wp K V m p i j = V i j
  | 0 => rfl
  | p + 1 => by
    have ih := gx_wp_row (K := K) (V := V) (m := m) h1 h3 j p
    by_cases h : gx_act V m p
    · have e : gx_wp K V m (p + 1) = _ := if_pos h
      rw [e, gx_up_row h3, gx_up_row h1, ih]
    · rw [gx_wp_f h, gx_up_row h3, ih]
theorem gx_wt_row {U : gx_K} {h : Int32} {i : Nat} (h1 : i ≠ 1) (j : Nat) : ∀ t, gx_wt U h t i j = U i j
  | 0 => rfl
  | t + 1 => by
    have ih := gx_wt_row (U := U) (h := h) h1 j t
    by_cases q : (h >>> (nI t &&& 31)) &&& nI 1 = 0
    · rw [gx_wt_t q, gx_up_row h1, ih]
    · rw [gx_wt_f q, ih]
theorem gx_wind_row {K V : gx_K} {m : Int32} {i : Nat} (h1 : i ≠ 1) (h3 : i ≠ 3) (j : Nat) : gx_wind K V m i j = V i j := by
  unfold gx_wind
  rw [gx_wt_row h1, gx_wp_row h1 h3]
theorem gx_wp_b {K V : gx_K} {m : Int32} (vw : gx_VW K V) : ∀ p, (∀ j, j < K 0 1 → gx_wp K V m p 1 j ≤ 99) ∧ (∀ j, j < K 0 2 → gx_wp K V m p 3 j ≤ 99)
  | 0 => ⟨vw.2.1, vw.2.2.2.1⟩
  | p + 1 => by
    obtain ⟨i1, i3⟩ := gx_wp_b (m := m) vw p
    by_cases h : gx_act V m p
    · have e : gx_wp K V m (p + 1) = _ := if_pos h
      refine ⟨fun j hj => ?_, fun j hj => ?_⟩
      · rw [e, gx_up_row (by decide)]
        by_cases q : j = V 2 p - 1
        · subst q; rw [gx_up_eq]; unfold gx_more; omega
        · rw [gx_up_col q]; exact i1 j hj
      · rw [e]
        by_cases q : j = p
        · subst q; rw [gx_up_eq]; omega
        · rw [gx_up_col q, gx_up_row (by decide)]; exact i3 j hj
    · rw [gx_wp_f h]
      refine ⟨fun j hj => by rw [gx_up_row (by decide)]; exact i1 j hj, fun j hj => ?_⟩
      by_cases q : j = p
      · subst q; rw [gx_up_eq]; have := i3 j hj; omega
      · rw [gx_up_col q]; exact i3 j hj
theorem gx_wt_b {U : gx_K} {h : Int32} {b c : Nat} (hU : ∀ j, j < b → U 1 j ≤ c) : ∀ t j, j < b → gx_wt U h t 1 j ≤ c
  | 0, j, hj => hU j hj
  | t + 1, j, hj => by
    have ih := gx_wt_b (h := h) hU t
    by_cases q : (h >>> (nI t &&& 31)) &&& nI 1 = 0
    · rw [gx_wt_t q]
      by_cases e : j = t
      · subst e; rw [gx_up_eq]; have := ih j hj; omega
      · rw [gx_up_col e]; exact ih j hj
    · rw [gx_wt_f q]; exact ih j hj
theorem gx_wp_VW {K V : gx_K} {m : Int32} (vw : gx_VW K V) (p : Nat) : gx_VW K (gx_wp K V m p) := by
  obtain ⟨b1, b3⟩ := gx_wp_b (m := m) vw p
  exact ⟨by rw [gx_wp_row (by decide) (by decide)]; exact vw.1, b1, fun j hj => by rw [gx_wp_row (by decide) (by decide)]; exact vw.2.2.1 j hj, b3, fun j hj => by rw [gx_wp_row (by decide) (by decide)]; exact vw.2.2.2.2 j hj⟩
theorem gx_wt_VW {K U : gx_K} {h : Int32} (vw : gx_VW K U) (t : Nat) : gx_VW K (gx_wt U h t) :=
  ⟨by rw [gx_wt_row (by decide)]; exact vw.1, fun j hj => gx_wt_b vw.2.1 t j hj, fun j hj => by rw [gx_wt_row (by decide)]; exact vw.2.2.1 j hj, fun j hj => by rw [gx_wt_row (by decide)]; exact vw.2.2.2.1 j hj, fun j hj => by rw [gx_wt_row (by decide)]; exact vw.2.2.2.2 j hj⟩
theorem gx_wind_VW {K V : gx_K} {m : Int32} (vw : gx_VW K V) : gx_VW K (gx_wind K V m) := gx_wt_VW (gx_wp_VW vw _) _
theorem gx_seat_in {v T : Nat} (hv : v ≤ T) (hT : T ≤ 6) : gx_in (gx_seat v) (nI T) = 0 ↔ v = 0 := by
  cases v with
  | zero => exact ⟨fun _ => rfl, fun _ => by rw [gx_seat_0]; exact (gx_in_f1 (by decide)).trans nI_0⟩
  | succ t =>
    rw [gx_seat_s, gx_in_nI (by omega) (by omega)]
    exact ⟨fun q => absurd q (by decide), fun q => by cases q⟩
theorem gx_min99 {a : Nat} (h : a ≤ 99) : (if nI a + nI 1 < nI 99 then nI a + nI 1 else nI 99) = nI (min 99 (a + 1)) := by
  rw [nI_add]
  by_cases q : a + 1 < 99
  · rw [if_pos (nI_lt q (by omega)), Nat.min_eq_right (by omega)]
  · rw [if_neg (nI_nlt (by omega) (by omega)), Nat.min_eq_left (by omega)]
set_option maxRecDepth 100000 in
set_option maxHeartbeats 4000000 in
theorem c_X8_wind {l : Launch} {G : gt_G} {n : Nat} {w : gt_W} {s c : Nat} {K V : gx_K} {m : Int32} (hc : gt_isC c) (hK : gx_Co w c K) (kw : gx_KW K) (hs : gt_isS s) (hV : gx_St w s K V m) (vw : gx_VW K V) : gt_D l G yX8_wind cX8_wind 5 none 2 n [.ref s, .ref c] w (fun r w' => r = none ∧ gx_Fr w w' s (s + 5) ∧ gx_St w' s K (gx_wind K V m) m) := by
  refine gt_D_of (own := RX8) (nm := "wind") rfl rfl (by decide +kernel) (Nat.le_of_ble_eq_true rfl) ?_
  show gt_A _ _ _ _ _ _ _ _ _ _ _ [(0, .ref s), (1, .ref c)] _ _
  refine ga_iconst (nI 0) dX8_wind_0 (by decide) ?_
  refine gs_istore_n [(0, _), (1, _), (2, _)] dX8_wind_1 (by decide) rfl rfl ?_
  refine ga_iconst (nI 0) dX8_wind_2 (by decide) ?_
  refine gs_istore_n [(0, _), (1, _), (2, _), (3, _)] dX8_wind_3 (by decide) rfl rfl ?_
  have loop : ∀ k p, p + k = K 0 2 → ∀ w1 : gt_W, gx_Co w1 c K → gx_St w1 s K (gx_wp K V m p) m → gx_Fr w w1 s (s + 5) → gt_A l G RX8 "wind" cX8_wind 5 none (gt_rm 2 0 0) (gt_ZD G n (fun r w' => r = none ∧ gx_Fr w w' s (s + 5) ∧ gx_St w' s K (gx_wind K V m) m)) (n, 0, 0) 4 [(0, .ref s), (1, .ref c), (2, .int (gx_hp V m p)), (3, .int (nI p))] [] (gt_enc w1) := by
    intro k
    induction k with
    | zero =>
      intro p ht w1 hK hV hF
      have ep : p = K 0 2 := by omega
      refine ga_iload_n 3 dX8_wind_4 rfl ?_
      refine ga_aload_n 1 dX8_wind_5 rfl ?_
      refine ga_get kf_X8_51 (shC hc _) (gv hK.1.2.2.1) dX8_wind_6 ?_
      refine ga_icmp_ge 119 dX8_wind_9 (by decide) (fun c_9 => ?_) (fun c_9 => absurd (nI_le (by omega) (by have := kw.2.2.1; omega)) c_9)
      refine ga_iconst (nI 0) dX8_wind_119 (by decide) ?_
      refine gs_istore_n [(0, _), (1, _), (2, _), (3, _)] dX8_wind_120 (by decide) rfl rfl ?_
      have loop2 : ∀ k2 t, t + k2 = K 0 1 → ∀ w2 : gt_W, gx_Co w2 c K → gx_St w2 s K (gx_wt (gx_wp K V m p) (gx_hp V m p) t) m → gx_Fr w w2 s (s + 5) → gt_A l G RX8 "wind" cX8_wind 5 none (gt_rm 2 0 0) (gt_ZD G n (fun r w' => r = none ∧ gx_Fr w w' s (s + 5) ∧ gx_St w' s K (gx_wind K V m) m)) (n, 0, 0) 121 [(0, .ref s), (1, .ref c), (2, .int (gx_hp V m p)), (3, .int (nI t))] [] (gt_enc w2) := by
        intro k2
        induction k2 with
        | zero =>
          intro t ht w2 hK hV hF
          have et : t = K 0 1 := by omega
          refine ga_iload_n 3 dX8_wind_121 rfl ?_
          refine ga_aload_n 1 dX8_wind_122 rfl ?_
          refine ga_get kf_X8_85 (shC hc _) (gv hK.1.2.1) dX8_wind_123 ?_
          refine ga_icmp_ge 161 dX8_wind_126 (by decide) (fun c_126 => ?_) (fun c_126 => absurd (nI_le (by omega) (by have := kw.2.1; omega)) c_126)
          exact gd_vret dX8_wind_161 ⟨rfl, hF, by rw [ep, et] at hV; exact hV⟩
        | succ k2 ih =>
          intro t ht w2 hK hV hF
          refine ga_iload_n 3 dX8_wind_121 rfl ?_
          refine ga_aload_n 1 dX8_wind_122 rfl ?_
          refine ga_get kf_X8_85 (shC hc _) (gv hK.1.2.1) dX8_wind_123 ?_
          refine ga_icmp_ge 161 dX8_wind_126 (by decide) (fun c_126 => absurd c_126 (nI_ge (by omega) (by have := kw.2.1; omega))) (fun c_126 => ?_)
          refine ga_iload_n 2 dX8_wind_129 rfl ?_
          refine ga_iload_n 3 dX8_wind_130 rfl ?_
          refine ga_ishr dX8_wind_131 ?_
          refine ga_iconst (nI 1) dX8_wind_132 (by decide) ?_
          refine ga_iand dX8_wind_133 ?_
          refine ga_if_ne 155 dX8_wind_134 (by decide) (fun c_134 => ?_) (fun c_134 => ?_)
          · refine gs_iincN 3 1 [(0, _), (1, _), (2, _), (3, _)] dX8_wind_155 rfl (by decide) (by decide) rfl rfl ?_
            refine ga_goto 121 dX8_wind_158 (by decide) ?_
            first | exact ih (t + 1) (by omega) _ hK (by rw [gx_wt_t c_134]; exact hV) hF | exact ih (t + 1) (by omega) _ hK (by rw [gx_wt_f c_134]; exact hV) hF
          · refine ga_aload_n 0 dX8_wind_137 rfl ?_
            refine ga_get kf_X8_9 (shS hs _) rfl dX8_wind_138 ?_
            refine ga_iload_n 3 dX8_wind_141 rfl ?_
            refine ga_iconst (nI 0) dX8_wind_142 (by decide) ?_
            refine ga_aload_n 0 dX8_wind_143 rfl ?_
            refine ga_get kf_X8_9 (shS hs _) rfl dX8_wind_144 ?_
            refine ga_iload_n 3 dX8_wind_147 rfl ?_
            refine gl_S1 hs hV kw (by omega) dX8_wind_148 ?_
            refine ga_iconst (nI 3) dX8_wind_149 (by decide) ?_
            refine ga_isub dX8_wind_150 ?_
            refine ga_max km_X8_82 kmath_max (gt_room0 (by decide)) (Nat.le_of_ble_eq_true rfl) dX8_wind_151 ?_
            refine ga_top _ (gx_max0 (by have := (gx_wt_VW (h := gx_hp V m p) (gx_wp_VW (m := m) vw p) t).2.1 t (by omega); omega) (by omega)) ?_
            refine gw_S1 hc hK kw hs hV hF (by omega) dX8_wind_154 (fun w1 hK hV hF => ?_)
            refine gs_iincN 3 1 [(0, _), (1, _), (2, _), (3, _)] dX8_wind_155 rfl (by decide) (by decide) rfl rfl ?_
            refine ga_goto 121 dX8_wind_158 (by decide) ?_
            first | exact ih (t + 1) (by omega) _ hK (by rw [gx_wt_t c_134]; exact hV) hF | exact ih (t + 1) (by omega) _ hK (by rw [gx_wt_f c_134]; exact hV) hF
      exact loop2 (K 0 1) 0 (by omega) _ hK hV hF
    | succ k ih =>
      intro p ht w1 hK hV hF
      have hb := gx_wp_b (m := m) vw p
      refine ga_iload_n 3 dX8_wind_4 rfl ?_
      refine ga_aload_n 1 dX8_wind_5 rfl ?_
      refine ga_get kf_X8_51 (shC hc _) (gv hK.1.2.2.1) dX8_wind_6 ?_
      refine ga_icmp_ge 119 dX8_wind_9 (by decide) (fun c_9 => absurd c_9 (nI_ge (by omega) (by have := kw.2.2.1; omega))) (fun c_9 => ?_)
      refine ga_aload_n 0 dX8_wind_12 rfl ?_
      refine ga_get kf_X8_15 (shS hs _) rfl dX8_wind_13 ?_
      refine ga_iload_n 3 dX8_wind_16 rfl ?_
      refine gl_S2 hs hV kw (by omega) dX8_wind_17 ?_
      refine ga_top (gx_seat (V 2 p)) (by rw [gx_wp_row (by decide) (by decide)]) ?_
      refine gs_istore [(0, _), (1, _), (2, _), (3, _), (4, _)] dX8_wind_18 (by decide) rfl rfl ?_
      refine ga_aload_n 1 dX8_wind_20 rfl ?_
      refine ga_iload 4 dX8_wind_21 rfl ?_
      refine ga_V1 km_X8_62 kv_X0_hasTower (c_X0_hasTower hc hK.1.2.1 (gx_seat (V 2 p))) (shC hc _) rfl rfl (gt_rc0 (by decide)) (Nat.le_of_ble_eq_true rfl) dX8_wind_23 ?_
      refine ga_if_eq 95 dX8_wind_26 (by decide) (fun c_26 => ?_) (fun c_26 => ?_)
      · have hact : ¬ gx_act V m p := fun q => q.1 ((gx_seat_in (vw.2.2.1 p (by omega)) kw.2.1).mp c_26)
        refine ga_aload_n 0 dX8_wind_95 rfl ?_
        refine ga_get kf_X8_18 (shS hs _) rfl dX8_wind_96 ?_
        refine ga_iload_n 3 dX8_wind_99 rfl ?_
        refine ga_iconst (nI 0) dX8_wind_100 (by decide) ?_
        refine ga_aload_n 0 dX8_wind_101 rfl ?_
        refine ga_get kf_X8_18 (shS hs _) rfl dX8_wind_102 ?_
        refine ga_iload_n 3 dX8_wind_105 rfl ?_
        refine gl_S3 hs hV kw (by omega) dX8_wind_106 ?_
        refine ga_iconst (nI 2) dX8_wind_107 (by decide) ?_
        refine ga_isub dX8_wind_108 ?_
        refine ga_max km_X8_82 kmath_max (gt_room0 (by decide)) (Nat.le_of_ble_eq_true rfl) dX8_wind_109 ?_
        refine ga_top _ (gx_max0 (by have := hb.2 p (by omega); omega) (by omega)) ?_
        refine gw_S3 hc hK kw hs hV hF (by omega) dX8_wind_112 (fun w1 hK hV hF => ?_)
        refine gs_iincN 3 1 [(0, _), (1, _), (2, _), (3, _), (4, _)] dX8_wind_113 rfl (by decide) (by decide) rfl rfl ?_
        refine ga_goto 4 dX8_wind_116 (by decide) ?_
        refine ga_take 4 ?_
        first | (have h9 := ih (p + 1) (by omega) _ hK (by rw [gx_wp_f hact]; exact hV) hF; rw [gx_hp_f hact] at h9; exact h9) | (have h9 := ih (p + 1) (by omega) _ hK (by rw [gx_wp_t hact ht9]; exact hV) hF; rw [gx_hp_t hact ht9] at h9; exact h9)
      · refine ga_aload_n 0 dX8_wind_29 rfl ?_
        refine ga_iload_n 3 dX8_wind_30 rfl ?_
        refine ga_V1 km_X8_66 kv_X8_sleeps (c_X8_sleeps hs hV.2.1 (nI p)) (shS hs _) rfl rfl (gt_rc0 (by decide)) (Nat.le_of_ble_eq_true rfl) dX8_wind_31 ?_
        refine ga_if_ne 95 dX8_wind_34 (by decide) (fun c_34 => ?_) (fun c_34 => ?_)
        · have hact : ¬ gx_act V m p := fun q => c_34 q.2
          refine ga_aload_n 0 dX8_wind_95 rfl ?_
          refine ga_get kf_X8_18 (shS hs _) rfl dX8_wind_96 ?_
          refine ga_iload_n 3 dX8_wind_99 rfl ?_
          refine ga_iconst (nI 0) dX8_wind_100 (by decide) ?_
          refine ga_aload_n 0 dX8_wind_101 rfl ?_
          refine ga_get kf_X8_18 (shS hs _) rfl dX8_wind_102 ?_
          refine ga_iload_n 3 dX8_wind_105 rfl ?_
          refine gl_S3 hs hV kw (by omega) dX8_wind_106 ?_
          refine ga_iconst (nI 2) dX8_wind_107 (by decide) ?_
          refine ga_isub dX8_wind_108 ?_
          refine ga_max km_X8_82 kmath_max (gt_room0 (by decide)) (Nat.le_of_ble_eq_true rfl) dX8_wind_109 ?_
          refine ga_top _ (gx_max0 (by have := hb.2 p (by omega); omega) (by omega)) ?_
          refine gw_S3 hc hK kw hs hV hF (by omega) dX8_wind_112 (fun w1 hK hV hF => ?_)
          refine gs_iincN 3 1 [(0, _), (1, _), (2, _), (3, _), (4, _)] dX8_wind_113 rfl (by decide) (by decide) rfl rfl ?_
          refine ga_goto 4 dX8_wind_116 (by decide) ?_
          refine ga_take 4 ?_
          first | (have h9 := ih (p + 1) (by omega) _ hK (by rw [gx_wp_f hact]; exact hV) hF; rw [gx_hp_f hact] at h9; exact h9) | (have h9 := ih (p + 1) (by omega) _ hK (by rw [gx_wp_t hact ht9]; exact hV) hF; rw [gx_hp_t hact ht9] at h9; exact h9)
        · have hz : ¬ V 2 p = 0 := fun q => c_26 ((gx_seat_in (vw.2.2.1 p (by omega)) kw.2.1).mpr q)
          have hact : gx_act V m p := ⟨hz, c_34⟩
          obtain ⟨t, ht9⟩ : ∃ t, V 2 p = t + 1 := ⟨V 2 p - 1, by omega⟩
          have ht6 : t < K 0 1 := by have := vw.2.2.1 p (by omega); omega
          refine ga_lvE (lv' := [(0, _), (1, _), (2, _), (3, _), (4, .int (nI t))]) (by rw [ht9, gx_seat_s]) ?_
          refine ga_aload_n 0 dX8_wind_37 rfl ?_
          refine ga_get kf_X8_9 (shS hs _) rfl dX8_wind_38 ?_
          refine ga_iload 4 dX8_wind_41 rfl ?_
          refine ga_aload_n 0 dX8_wind_43 rfl ?_
          refine ga_get kf_X8_9 (shS hs _) rfl dX8_wind_44 ?_
          refine ga_iload 4 dX8_wind_47 rfl ?_
          refine gl_S1 hs hV kw ht6 dX8_wind_49 ?_
          refine ga_aload_n 1 dX8_wind_50 rfl ?_
          refine ga_get kf_X8_69 (shC hc _) rfl dX8_wind_51 ?_
          refine ga_iload_n 3 dX8_wind_54 rfl ?_
          refine gl_C4 hc hK kw (by omega) dX8_wind_55 ?_
          refine ga_aload_n 0 dX8_wind_56 rfl ?_
          refine ga_get kf_X8_18 (shS hs _) rfl dX8_wind_57 ?_
          refine ga_iload_n 3 dX8_wind_60 rfl ?_
          refine gl_S3 hs hV kw (by omega) dX8_wind_61 ?_
          refine ga_S3 km_X8_72 kv_X8_woundMore (c_X8_woundMore (hb.1 t ht6) (kw.2.2.2.2.2.2.2.1 p (by omega)).2 (hb.2 p (by omega))) (gt_rc0 (by decide)) (Nat.le_of_ble_eq_true rfl) dX8_wind_62 ?_
          refine gw_S1 hc hK kw hs hV hF ht6 dX8_wind_65 (fun w1 hK hV hF => ?_)
          refine ga_aload_n 0 dX8_wind_66 rfl ?_
          refine ga_get kf_X8_18 (shS hs _) rfl dX8_wind_67 ?_
          refine ga_iload_n 3 dX8_wind_70 rfl ?_
          refine ga_bipush (nI 99) dX8_wind_71 (by decide) ?_
          refine ga_aload_n 0 dX8_wind_73 rfl ?_
          refine ga_get kf_X8_18 (shS hs _) rfl dX8_wind_74 ?_
          refine ga_iload_n 3 dX8_wind_77 rfl ?_
          refine gl_S3 hs hV kw (by omega) dX8_wind_78 ?_
          refine ga_top (nI (gx_wp K V m p 3 p)) (by rw [gx_up_row (by decide)]) ?_
          refine ga_iconst (nI 1) dX8_wind_79 (by decide) ?_
          refine ga_iadd dX8_wind_80 ?_
          refine ga_min km_X8_76 kmath_min (gt_room0 (by decide)) (Nat.le_of_ble_eq_true rfl) dX8_wind_81 ?_
          refine ga_top _ (gx_min99 (hb.2 p (by omega))) ?_
          refine gw_S3 hc hK kw hs hV hF (by omega) dX8_wind_84 (fun w1 hK hV hF => ?_)
          refine ga_iload_n 2 dX8_wind_85 rfl ?_
          refine ga_iconst (nI 1) dX8_wind_86 (by decide) ?_
          refine ga_iload 4 dX8_wind_87 rfl ?_
          refine ga_ishl dX8_wind_89 ?_
          refine ga_ior dX8_wind_90 ?_
          refine gs_istore_n [(0, _), (1, _), (2, _), (3, _), (4, _)] dX8_wind_91 (by decide) rfl rfl ?_
          refine ga_goto 113 dX8_wind_92 (by decide) ?_
          refine gs_iincN 3 1 [(0, _), (1, _), (2, _), (3, _), (4, _)] dX8_wind_113 rfl (by decide) (by decide) rfl rfl ?_
          refine ga_goto 4 dX8_wind_116 (by decide) ?_
          refine ga_take 4 ?_
          first | (have h9 := ih (p + 1) (by omega) _ hK (by rw [gx_wp_f hact]; exact hV) hF; rw [gx_hp_f hact] at h9; exact h9) | (have h9 := ih (p + 1) (by omega) _ hK (by rw [gx_wp_t hact ht9]; exact hV) hF; rw [gx_hp_t hact ht9] at h9; exact h9)
  exact loop (K 0 2) 0 (by omega) _ hK hV gx_Fr_rf
