/-- a tower let down for n hours -/
def gx_ld (wd n : Nat) : Nat := wd - 3 * n
/-- the sea at k behind n hours in which nobody turns -/
def gx_rest (K V : gx_K) (k n : Nat) : Nat := gx_sum (fun t => gx_bears (gx_ld (V 1 t) n) (K 3 t) (K 2 t) k) (K 0 1)
/-- tower t turned by player p for n hours -/
def gx_tn (K V : gx_K) (p t : Nat) : Nat → Nat
  | 0 => V 1 t
  | i + 1 => gx_more (gx_tn K V p t i) (K 4 p) (min 99 (V 3 p + i))
def gx_wb (K V : gx_K) (m : Int32) (p t n : Nat) : Nat := if gx_slpB m (nI p) = 0 then gx_tn K V p t n else gx_ld (V 1 t) n
/-- what p gains at t -/
def gx_g (K V : gx_K) (m : Int32) (k n p t : Nat) : Nat := gx_bears (gx_wb K V m p t n) (K 3 t) (K 2 t) k - gx_bears (gx_ld (V 1 t) n) (K 3 t) (K 2 t) k
theorem gx_more_le (a b c : Nat) : gx_more a b c ≤ 99 := by unfold gx_more; omega
theorem gx_more_ge {a : Nat} (h : a ≤ 99) (b c : Nat) : a ≤ gx_more a b c := by unfold gx_more; omega
theorem gx_tn_b {K V : gx_K} {p t : Nat} (h : V 1 t ≤ 99) : ∀ n, V 1 t ≤ gx_tn K V p t n ∧ gx_tn K V p t n ≤ 99
  | 0 => ⟨Nat.le_refl _, h⟩
  | n + 1 => by
    have ih := gx_tn_b (K := K) (p := p) h n
    exact ⟨Nat.le_trans ih.1 (gx_more_ge ih.2 _ _), gx_more_le _ _ _⟩
theorem gx_wb_b {K V : gx_K} {m : Int32} {p t : Nat} (h : V 1 t ≤ 99) (n : Nat) : gx_ld (V 1 t) n ≤ gx_wb K V m p t n ∧ gx_wb K V m p t n ≤ 99 := by
  have h1 := gx_tn_b (K := K) (p := p) h n
  have h2 : gx_ld (V 1 t) n ≤ V 1 t := Nat.sub_le _ _
  unfold gx_wb
  split <;> omega
theorem gx_bears_mono {a b : Nat} (h : a ≤ b) (fl tc k : Nat) : gx_bears a fl tc k ≤ gx_bears b fl tc k := Nat.sub_le_sub_right h _
theorem gx_bears_le (a fl tc k : Nat) : gx_bears a fl tc k ≤ a := Nat.sub_le _ _
theorem gx_g_le {K V : gx_K} {m : Int32} {p t : Nat} (h : V 1 t ≤ 99) (k n : Nat) : gx_g K V m k n p t ≤ 99 := by
  have h1 := (gx_wb_b (K := K) (m := m) (p := p) h n).2
  have h2 := gx_bears_le (gx_wb K V m p t n) (K 3 t) (K 2 t) k
  unfold gx_g
  omega
/-- the most that p gains -/
def gx_gm (K V : gx_K) (m : Int32) (k n p : Nat) : Nat := gx_mx (gx_g K V m k n p) (K 0 1)
/-- what k players of the last j could gain at the most -/
def gx_mg (f : Nat → Nat) (P : Nat) : Nat → Nat → Nat
  | 0, _ => 0
  | _ + 1, 0 => 0
  | j + 1, k + 1 => max (gx_mg f P j (k + 1)) (gx_mg f P j k + f (P - (j + 1)))
theorem gx_mg_le {f : Nat → Nat} {P : Nat} (hf : ∀ p, f p ≤ 99) : ∀ j k, gx_mg f P j k ≤ j * 99
  | 0, _ => Nat.zero_le _
  | _ + 1, 0 => Nat.zero_le _
  | j + 1, k + 1 => by
    have h1 := gx_mg_le hf (P := P) j (k + 1)
    have h2 := gx_mg_le hf (P := P) j k
    have h3 := hf (P - (j + 1))
    show max _ _ ≤ _
    rw [Nat.succ_mul]
    exact Nat.max_le.mpr ⟨by omega, by omega⟩
set_option maxRecDepth 100000 in
set_option maxHeartbeats 4000000 in
theorem c_X5_letDown {l : Launch} {G : gt_G} {n : Nat} {w : gt_W} {a n9 : Nat} (h1 : a ≤ 99) (h2 : n9 ≤ 20) : gt_C l G yX5_letDown cX5_letDown 2 (some .int) 1 0 0 n [.int (nI a), .int (nI n9)] (gt_enc w) (some (.int (nI (gx_ld a n9)))) (gt_enc (w)) := by
  refine gt_C_of (own := RX5) (nm := "letDown") rfl rfl (by decide +kernel) (Nat.le_of_ble_eq_true rfl) ?_
  show gt_A _ _ _ _ _ _ _ _ _ _ _ [(0, .int (nI a)), (1, .int (nI n9))] _ _
  refine ga_iconst (nI 0) dX5_letDown_0 (by decide) ?_
  refine ga_iload_n 0 dX5_letDown_1 rfl ?_
  refine ga_iconst (nI 3) dX5_letDown_2 (by decide) ?_
  refine ga_iload_n 1 dX5_letDown_3 rfl ?_
  refine ga_imul dX5_letDown_4 ?_
  refine ga_isub dX5_letDown_5 ?_
  refine ga_max km_X5_74 kmath_max (gt_room0 (by decide)) (Nat.le_of_ble_eq_true rfl) dX5_letDown_6 ?_
  exact ga_iret dX5_letDown_9 (gv (by rw [pk_mul]; exact (gx_max0 (by omega) (by omega)).symm)) rfl
set_option maxRecDepth 100000 in
set_option maxHeartbeats 4000000 in
theorem c_X5_seaIfAllRest {l : Launch} {G : gt_G} {n : Nat} {w : gt_W} {c : Nat} {K V : gx_K} {m : Int32} {k9 n9 : Nat} (hc : gt_isC c) (hK : gx_Co w c K) (kw : gx_KW K) (hV : gx_St w 20 K V m) (vw : gx_VW K V) (hk : k9 < 11) (hn : n9 ≤ 20) : gt_C l G yX5_seaIfAllRest cX5_seaIfAllRest 7 (some .int) 2 0 0 n [.ref 123, .ref c, .ref 20, .int (nI k9), .int (nI n9)] (gt_enc w) (some (.int (nI (gx_rest K V k9 n9)))) (gt_enc (w)) := by
  refine gt_C_of (own := RX5) (nm := "seaIfAllRest") rfl rfl (by decide +kernel) (Nat.le_of_ble_eq_true rfl) ?_
  show gt_A _ _ _ _ _ _ _ _ _ _ _ [(0, .ref 123), (1, .ref c), (2, .ref 20), (3, .int (nI k9)), (4, .int (nI n9))] _ _
  refine ga_iconst (nI 0) dX5_seaIfAllRest_0 (by decide) ?_
  refine gs_istore [(0, _), (1, _), (2, _), (3, _), (4, _), (5, _)] dX5_seaIfAllRest_1 (by decide) rfl rfl ?_
  refine ga_iconst (nI 0) dX5_seaIfAllRest_3 (by decide) ?_
  refine gs_istore [(0, _), (1, _), (2, _), (3, _), (4, _), (5, _), (6, _)] dX5_seaIfAllRest_4 (by decide) rfl rfl ?_
  have loop : ∀ k t, t + k = K 0 1 → gt_A l G RX5 "seaIfAllRest" cX5_seaIfAllRest 7 (some .int) (gt_rm 2 0 0) (gt_Z G (n + 0) 0 0 (some (.int (nI (gx_rest K V k9 n9)))) (gt_enc (w))) (n, 0, 0) 6 [(0, .ref 123), (1, .ref c), (2, .ref 20), (3, .int (nI k9)), (4, .int (nI n9)), (5, .int (nI (gx_sum (fun t => gx_bears (gx_ld (V 1 t) n9) (K 3 t) (K 2 t) k9) t))), (6, .int (nI t))] [] (gt_enc w) := by
    intro k
    induction k with
    | zero =>
      intro t ht
      have et : t = K 0 1 := by omega
      refine ga_iload 6 dX5_seaIfAllRest_6 rfl ?_
      refine ga_aload_n 1 dX5_seaIfAllRest_8 rfl ?_
      refine ga_get kf_X5_49 (shC hc _) (gv hK.1.2.1) dX5_seaIfAllRest_9 ?_
      refine ga_icmp_ge 45 dX5_seaIfAllRest_12 (by decide) (fun c_12 => ?_) (fun c_12 => absurd (nI_le (by omega) (by have := kw.2.1; omega)) c_12)
      refine ga_iload 5 dX5_seaIfAllRest_45 rfl ?_
      exact ga_iret dX5_seaIfAllRest_47 (gv (by rw [et]; rfl)) rfl
    | succ k ih =>
      intro t ht
      refine ga_iload 6 dX5_seaIfAllRest_6 rfl ?_
      refine ga_aload_n 1 dX5_seaIfAllRest_8 rfl ?_
      refine ga_get kf_X5_49 (shC hc _) (gv hK.1.2.1) dX5_seaIfAllRest_9 ?_
      refine ga_icmp_ge 45 dX5_seaIfAllRest_12 (by decide) (fun c_12 => absurd c_12 (nI_ge (by omega) (by have := kw.2.1; omega))) (fun c_12 => ?_)
      refine ga_iload 5 dX5_seaIfAllRest_15 rfl ?_
      refine ga_aload_n 1 dX5_seaIfAllRest_17 rfl ?_
      refine ga_iload 6 dX5_seaIfAllRest_18 rfl ?_
      refine ga_aload_n 2 dX5_seaIfAllRest_20 rfl ?_
      refine ga_get kf_X5_62 (shS isS20 _) rfl dX5_seaIfAllRest_21 ?_
      refine ga_iload 6 dX5_seaIfAllRest_24 rfl ?_
      refine gl_S1 isS20 hV kw (by omega) dX5_seaIfAllRest_26 ?_
      refine ga_iload 4 dX5_seaIfAllRest_27 rfl ?_
      refine ga_S2 km_X5_67 kv_X5_letDown (c_X5_letDown (vw.2.1 t (by omega)) hn) (gt_rc0 (by decide)) (Nat.le_of_ble_eq_true rfl) dX5_seaIfAllRest_29 ?_
      refine ga_iload_n 3 dX5_seaIfAllRest_32 rfl ?_
      refine ga_V3 km_X5_70 kv_X0_bears (c_X0_bears hc hK kw (by omega) (Nat.le_trans (Nat.sub_le _ _) (vw.2.1 t (by omega))) hk) (shC hc _) rfl rfl (gt_rc0 (by decide)) (Nat.le_of_ble_eq_true rfl) dX5_seaIfAllRest_33 ?_
      refine ga_iadd dX5_seaIfAllRest_36 ?_
      refine gs_istore [(0, _), (1, _), (2, _), (3, _), (4, _), (5, _), (6, _)] dX5_seaIfAllRest_37 (by decide) rfl rfl ?_
      refine gs_iincN 6 1 [(0, _), (1, _), (2, _), (3, _), (4, _), (5, _), (6, _)] dX5_seaIfAllRest_39 rfl (by decide) (by decide) rfl rfl ?_
      refine ga_goto 6 dX5_seaIfAllRest_42 (by decide) ?_
      have h9 := ih (t + 1) (by omega)
      rw [show gx_sum (fun t => gx_bears (gx_ld (V 1 t) n9) (K 3 t) (K 2 t) k9) (t + 1) = gx_sum (fun t => gx_bears (gx_ld (V 1 t) n9) (K 3 t) (K 2 t) k9) t + gx_bears (gx_ld (V 1 t) n9) (K 3 t) (K 2 t) k9 from rfl, ← nI_add] at h9
      exact h9
  exact loop (K 0 1) 0 (by omega)
set_option maxRecDepth 100000 in
set_option maxHeartbeats 4000000 in
theorem c_X5_woundBy {l : Launch} {G : gt_G} {n : Nat} {w : gt_W} {c : Nat} {K V : gx_K} {m : Int32} {p t n9 : Nat} (hc : gt_isC c) (hK : gx_Co w c K) (kw : gx_KW K) (hV : gx_St w 20 K V m) (vw : gx_VW K V) (hp : p < K 0 2) (ht9 : t < K 0 1) (hn : n9 ≤ 20) : gt_C l G yX5_woundBy cX5_woundBy 7 (some .int) 2 0 0 n [.ref c, .ref 20, .int (nI p), .int (nI t), .int (nI n9)] (gt_enc w) (some (.int (nI (gx_wb K V m p t n9)))) (gt_enc (w)) := by
  refine gt_C_of (own := RX5) (nm := "woundBy") rfl rfl (by decide +kernel) (Nat.le_of_ble_eq_true rfl) ?_
  show gt_A _ _ _ _ _ _ _ _ _ _ _ [(0, .ref c), (1, .ref 20), (2, .int (nI p)), (3, .int (nI t)), (4, .int (nI n9))] _ _
  refine ga_aload_n 1 dX5_woundBy_0 rfl ?_
  refine ga_iload_n 2 dX5_woundBy_1 rfl ?_
  refine ga_V1 km_X5_91 kv_X8_sleeps (c_X8_sleeps isS20 hV.2.1 (nI p)) (shS isS20 _) rfl rfl (gt_rc0 (by decide)) (Nat.le_of_ble_eq_true rfl) dX5_woundBy_2 ?_
  refine ga_if_eq 20 dX5_woundBy_5 (by decide) (fun c_5 => ?_) (fun c_5 => ?_)
  · refine ga_aload_n 1 dX5_woundBy_20 rfl ?_
    refine ga_get kf_X5_62 (shS isS20 _) rfl dX5_woundBy_21 ?_
    refine ga_iload_n 3 dX5_woundBy_24 rfl ?_
    refine gl_S1 isS20 hV kw ht9 dX5_woundBy_25 ?_
    refine gs_istore [(0, _), (1, _), (2, _), (3, _), (4, _), (5, _)] dX5_woundBy_26 (by decide) rfl rfl ?_
    refine ga_iconst (nI 0) dX5_woundBy_28 (by decide) ?_
    refine gs_istore [(0, _), (1, _), (2, _), (3, _), (4, _), (5, _), (6, _)] dX5_woundBy_29 (by decide) rfl rfl ?_
    have loop : ∀ k i, i + k = n9 → gt_A l G RX5 "woundBy" cX5_woundBy 7 (some .int) (gt_rm 2 0 0) (gt_Z G (n + 0) 0 0 (some (.int (nI (gx_wb K V m p t n9)))) (gt_enc (w))) (n, 0, 0) 31 [(0, .ref c), (1, .ref 20), (2, .int (nI p)), (3, .int (nI t)), (4, .int (nI n9)), (5, .int (nI (gx_tn K V p t i))), (6, .int (nI i))] [] (gt_enc w) := by
      intro k
      induction k with
      | zero =>
        intro i ht
        have ei : i = n9 := by omega
        refine ga_iload 6 dX5_woundBy_31 rfl ?_
        refine ga_iload 4 dX5_woundBy_33 rfl ?_
        refine ga_icmp_ge 71 dX5_woundBy_35 (by decide) (fun c_35 => ?_) (fun c_35 => absurd (nI_le (by omega) (by omega)) c_35)
        refine ga_iload 5 dX5_woundBy_71 rfl ?_
        exact ga_iret dX5_woundBy_73 (gv (by unfold gx_wb; rw [if_pos c_5, ei])) rfl
      | succ k ih =>
        intro i ht
        have h3 := vw.2.2.2.1 p hp
        refine ga_iload 6 dX5_woundBy_31 rfl ?_
        refine ga_iload 4 dX5_woundBy_33 rfl ?_
        refine ga_icmp_ge 71 dX5_woundBy_35 (by decide) (fun c_35 => absurd c_35 (nI_ge (by omega) (by omega))) (fun c_35 => ?_)
        refine ga_iload 5 dX5_woundBy_38 rfl ?_
        refine ga_aload_n 0 dX5_woundBy_40 rfl ?_
        refine ga_get kf_X5_95 (shC hc _) rfl dX5_woundBy_41 ?_
        refine ga_iload_n 2 dX5_woundBy_44 rfl ?_
        refine gl_C4 hc hK kw hp dX5_woundBy_45 ?_
        refine ga_bipush (nI 99) dX5_woundBy_46 (by decide) ?_
        refine ga_aload_n 1 dX5_woundBy_48 rfl ?_
        refine ga_get kf_X5_98 (shS isS20 _) rfl dX5_woundBy_49 ?_
        refine ga_iload_n 2 dX5_woundBy_52 rfl ?_
        refine gl_S3 isS20 hV kw hp dX5_woundBy_53 ?_
        refine ga_iload 6 dX5_woundBy_54 rfl ?_
        refine ga_iadd dX5_woundBy_56 ?_
        refine ga_min km_X5_52 kmath_min (gt_room0 (by decide)) (Nat.le_of_ble_eq_true rfl) dX5_woundBy_57 ?_
        refine ga_top (nI (min 99 (V 3 p + i))) (by rw [nI_add]; exact gx_minN (by omega) (by omega)) ?_
        refine ga_S3 km_X5_101 kv_X8_woundMore (c_X8_woundMore (gx_tn_b (vw.2.1 t ht9) i).2 (kw.2.2.2.2.2.2.2.1 p hp).2 (Nat.min_le_left _ _)) (gt_rc0 (by decide)) (Nat.le_of_ble_eq_true rfl) dX5_woundBy_60 ?_
        refine gs_istore [(0, _), (1, _), (2, _), (3, _), (4, _), (5, _), (6, _)] dX5_woundBy_63 (by decide) rfl rfl ?_
        refine gs_iincN 6 1 [(0, _), (1, _), (2, _), (3, _), (4, _), (5, _), (6, _)] dX5_woundBy_65 rfl (by decide) (by decide) rfl rfl ?_
        refine ga_goto 31 dX5_woundBy_68 (by decide) ?_
        exact ih (i + 1) (by omega)
    exact loop n9 0 (by omega)
  · refine ga_aload_n 1 dX5_woundBy_8 rfl ?_
    refine ga_get kf_X5_62 (shS isS20 _) rfl dX5_woundBy_9 ?_
    refine ga_iload_n 3 dX5_woundBy_12 rfl ?_
    refine gl_S1 isS20 hV kw ht9 dX5_woundBy_13 ?_
    refine ga_iload 4 dX5_woundBy_14 rfl ?_
    refine ga_S2 km_X5_67 kv_X5_letDown (c_X5_letDown (vw.2.1 t ht9) hn) (gt_rc0 (by decide)) (Nat.le_of_ble_eq_true rfl) dX5_woundBy_16 ?_
    exact ga_iret dX5_woundBy_19 (gv (by unfold gx_wb; rw [if_neg c_5])) rfl
set_option maxRecDepth 100000 in
set_option maxHeartbeats 4000000 in
theorem c_X5_noteMostGain {l : Launch} {G : gt_G} {n : Nat} {w : gt_W} {p x : Nat} {f : Nat → Nat} (hp : p < 6) (hx : x ≤ 99) (hf : ∀ q, q ≤ 6 → w (134 + (p + 1)) q = nI (f q)) (hfb : ∀ q, q ≤ 6 → f q ≤ 1000) : gt_D l G yX5_noteMostGain cX5_noteMostGain 4 none 1 n [.ref 123, .int (nI p), .int (nI x)] w (fun r w' => r = none ∧ (∀ a, a ≠ 134 + p → w' a = w a) ∧ ∀ q, q ≤ 6 → w' (134 + p) q = nI (if q = 0 then 0 else max (f q) (f (q - 1) + x))) := by
  refine gt_D_of (own := RX5) (nm := "noteMostGain") rfl rfl (by decide +kernel) (Nat.le_of_ble_eq_true rfl) ?_
  show gt_A _ _ _ _ _ _ _ _ _ _ _ [(0, .ref 123), (1, .int (nI p)), (2, .int (nI x))] _ _
  refine ga_aload_n 0 dX5_noteMostGain_0 rfl ?_
  refine ga_get kf_X5_23 (sh123 _) rfl dX5_noteMostGain_1 ?_
  refine ga_iload_n 1 dX5_noteMostGain_4 rfl ?_
  refine ge_aald sh133 rfl rfl (gt_ixn (by omega)) (if_pos (by omega)) dX5_noteMostGain_5 ?_
  refine ga_iconst (nI 0) dX5_noteMostGain_6 (by decide) ?_
  refine ga_iconst (nI 0) dX5_noteMostGain_7 (by decide) ?_
  refine gw_iast (shRow (b := 134) (k := p) (Or.inr (Or.inl ⟨rfl, rfl, by omega⟩))) (k := 0) (gt_ixn (by omega)) dX5_noteMostGain_8 (fun w_8 o_8 e_8 => ?_)
  refine ga_iconst (nI 1) dX5_noteMostGain_9 (by decide) ?_
  refine gs_istore_n [(0, _), (1, _), (2, _), (3, _)] dX5_noteMostGain_10 (by decide) rfl rfl ?_
  have loop : ∀ k t, t + k = 6 → ∀ w2 : gt_W, (∀ a, a ≠ 134 + p → w2 a = w a) → (∀ q, q ≤ t → w2 (134 + p) q = nI (if q = 0 then 0 else max (f q) (f (q - 1) + x))) → gt_A l G RX5 "noteMostGain" cX5_noteMostGain 4 none (gt_rm 1 0 0) (gt_ZD G n (fun r w' => r = none ∧ (∀ a, a ≠ 134 + p → w' a = w a) ∧ ∀ q, q ≤ 6 → w' (134 + p) q = nI (if q = 0 then 0 else max (f q) (f (q - 1) + x)))) (n, 0, 0) 11 [(0, .ref 123), (1, .int (nI p)), (2, .int (nI x)), (3, .int (nI (t + 1)))] [] (gt_enc w2) := by
    intro k
    induction k with
    | zero =>
      intro t ht w2 hF hr
      have et : t = 6 := by omega
      refine ga_iload_n 3 dX5_noteMostGain_11 rfl ?_
      refine ga_bipush (nI 6) dX5_noteMostGain_12 (by decide) ?_
      refine ga_icmp_gt 58 dX5_noteMostGain_14 (by decide) (fun c_14 => ?_) (fun c_14 => absurd (nI_lt (by omega) (by omega)) c_14)
      exact gd_vret dX5_noteMostGain_58 ⟨rfl, hF, by rw [et] at hr; exact hr⟩
    | succ k ih =>
      intro t ht w2 hF hr
      have hf1 := hfb (t + 1) (by omega)
      have hf2 := hfb t (by omega)
      refine ga_iload_n 3 dX5_noteMostGain_11 rfl ?_
      refine ga_bipush (nI 6) dX5_noteMostGain_12 (by decide) ?_
      refine ga_icmp_gt 58 dX5_noteMostGain_14 (by decide) (fun c_14 => absurd c_14 (nI_nlt (by omega) (by omega))) (fun c_14 => ?_)
      refine ga_aload_n 0 dX5_noteMostGain_17 rfl ?_
      refine ga_get kf_X5_23 (sh123 _) rfl dX5_noteMostGain_18 ?_
      refine ga_iload_n 1 dX5_noteMostGain_21 rfl ?_
      refine ge_aald sh133 rfl rfl (gt_ixn (by omega)) (if_pos (by omega)) dX5_noteMostGain_22 ?_
      refine ga_iload_n 3 dX5_noteMostGain_23 rfl ?_
      refine ga_aload_n 0 dX5_noteMostGain_24 rfl ?_
      refine ga_get kf_X5_23 (sh123 _) rfl dX5_noteMostGain_25 ?_
      refine ga_iload_n 1 dX5_noteMostGain_28 rfl ?_
      refine ga_iconst (nI 1) dX5_noteMostGain_29 (by decide) ?_
      refine ga_iadd dX5_noteMostGain_30 ?_
      refine ga_top (nI (p + 1)) (nI_add p 1) ?_
      refine ge_aald sh133 rfl rfl (gt_ixn (by omega)) (if_pos (by omega)) dX5_noteMostGain_31 ?_
      refine ga_iload_n 3 dX5_noteMostGain_32 rfl ?_
      refine ge_ialdE (shRow (b := 134) (k := p + 1) (Or.inr (Or.inl ⟨rfl, rfl, by omega⟩))) (gt_ixn (by omega)) (v := nI (f (t + 1))) (by rw [hF (134 + (p + 1)) (by omega)]; exact hf (t + 1) (by omega)) dX5_noteMostGain_33 ?_
      refine ga_aload_n 0 dX5_noteMostGain_34 rfl ?_
      refine ga_get kf_X5_23 (sh123 _) rfl dX5_noteMostGain_35 ?_
      refine ga_iload_n 1 dX5_noteMostGain_38 rfl ?_
      refine ga_iconst (nI 1) dX5_noteMostGain_39 (by decide) ?_
      refine ga_iadd dX5_noteMostGain_40 ?_
      refine ga_top (nI (p + 1)) (nI_add p 1) ?_
      refine ge_aald sh133 rfl rfl (gt_ixn (by omega)) (if_pos (by omega)) dX5_noteMostGain_41 ?_
      refine ga_iload_n 3 dX5_noteMostGain_42 rfl ?_
      refine ga_iconst (nI 1) dX5_noteMostGain_43 (by decide) ?_
      refine ga_isub dX5_noteMostGain_44 ?_
      refine ga_top (nI t) (pk_sub (a := t + 1) (b := 1) (by omega)) ?_
      refine ge_ialdE (shRow (b := 134) (k := p + 1) (Or.inr (Or.inl ⟨rfl, rfl, by omega⟩))) (gt_ixn (by omega)) (v := nI (f t)) (by rw [hF (134 + (p + 1)) (by omega)]; exact hf t (by omega)) dX5_noteMostGain_45 ?_
      refine ga_iload_n 2 dX5_noteMostGain_46 rfl ?_
      refine ga_iadd dX5_noteMostGain_47 ?_
      refine ga_max km_X5_74 kmath_max (gt_room0 (by decide)) (Nat.le_of_ble_eq_true rfl) dX5_noteMostGain_48 ?_
      refine ga_top (nI (max (f (t + 1)) (f t + x))) (by rw [nI_add]; exact gx_maxN (by omega) (by omega)) ?_
      refine gw_iast (shRow (b := 134) (k := p) (Or.inr (Or.inl ⟨rfl, rfl, by omega⟩))) (k := t + 1) (gt_ixn (by omega)) dX5_noteMostGain_51 (fun w_51 o_51 e_51 => ?_)
      refine gs_iincN 3 1 [(0, _), (1, _), (2, _), (3, _)] dX5_noteMostGain_52 rfl (by decide) (by decide) rfl rfl ?_
      refine ga_goto 11 dX5_noteMostGain_55 (by decide) ?_
      refine ih (t + 1) (by omega) _ (fun a ha => by rw [o_51 a ha]; exact hF a ha) (fun q hq => ?_)
      rw [e_51]
      by_cases e : q = t + 1
      · subst e; rw [upd_eq, if_neg (by omega), Nat.add_sub_cancel]
      · rw [upd_ne _ _ e]; exact hr q (by omega)
  exact loop 6 0 (by omega) _ o_8 (fun q hq => by rw [e_8, show q = 0 by omega, upd_eq, if_pos rfl])
/-- the gains of the players from p on, and the most of them, are noted -/
def gx_Gn (w : gt_W) (K V : gx_K) (m : Int32) (k n p : Nat) : Prop := (∀ q t, p ≤ q → q < K 0 2 → t < K 0 1 → w (127 + q) t = nI (gx_g K V m k n q t)) ∧ ∀ q i, p ≤ q → q ≤ K 0 2 → i ≤ 6 → w (134 + q) i = nI (gx_mg (gx_gm K V m k n) (K 0 2) (K 0 2 - q) i)
theorem gx_mg_step {f : Nat → Nat} {P p : Nat} (hp : p < P) (i : Nat) : gx_mg f P (P - p) i = if i = 0 then 0 else max (gx_mg f P (P - (p + 1)) i) (gx_mg f P (P - (p + 1)) (i - 1) + f p) := by
  obtain ⟨j, hj⟩ : ∃ j, P - p = j + 1 := ⟨P - p - 1, by omega⟩
  have h1 : P - (p + 1) = j := by omega
  have h2 : P - (j + 1) = p := by omega
  rw [hj, h1]
  cases i with
  | zero => rfl
  | succ i => rw [if_neg (by omega), Nat.add_sub_cancel]; show max _ (_ + f (P - (j + 1))) = _; rw [h2]
set_option maxRecDepth 100000 in
set_option maxHeartbeats 4000000 in
theorem c_X5_noteGains {l : Launch} {G : gt_G} {n : Nat} {w : gt_W} {c : Nat} {K V : gx_K} {m : Int32} {k9 n9 : Nat} (hc : gt_isC c) (hK : gx_Co w c K) (kw : gx_KW K) (hV : gx_St w 20 K V m) (vw : gx_VW K V) (hk : k9 < 11) (hn : n9 ≤ 20) : gt_D l G yX5_noteGains cX5_noteGains 9 none 3 n [.ref 123, .ref c, .ref 20, .int (nI k9), .int (nI n9)] w (fun r w' => r = none ∧ (∀ a, (a < 127 ∨ 141 ≤ a) → a ≠ 133 → w' a = w a) ∧ gx_Gn w' K V m k9 n9 0) := by
  refine gt_D_of (own := RX5) (nm := "noteGains") rfl rfl (by decide +kernel) (Nat.le_of_ble_eq_true rfl) ?_
  show gt_A _ _ _ _ _ _ _ _ _ _ _ [(0, .ref 123), (1, .ref c), (2, .ref 20), (3, .int (nI k9)), (4, .int (nI n9))] _ _
  refine ga_aload_n 0 dX5_noteGains_0 rfl ?_
  refine ga_get kf_X5_23 (sh123 _) rfl dX5_noteGains_1 ?_
  refine ga_aload_n 1 dX5_noteGains_4 rfl ?_
  refine ga_get kf_X5_46 (shC hc _) (gv hK.1.2.2.1) dX5_noteGains_5 ?_
  refine ge_aald sh133 rfl rfl (gt_ixn (by have := kw.2.2.1; omega)) (if_pos (by have := kw.2.2.1; omega)) dX5_noteGains_8 ?_
  refine ga_iconst (nI 0) dX5_noteGains_9 (by decide) ?_
  refine ga_S2 km_X5_77 kv_J7_fill_53178 (c_J7_fill_53178 (shRow (b := 134) (k := K 0 2) (Or.inr (Or.inl ⟨rfl, rfl, by have := kw.2.2.1; omega⟩))) (by decide)) (gt_rc0 (by decide)) (Nat.le_of_ble_eq_true rfl) dX5_noteGains_10 ?_
  refine ga_aload_n 1 dX5_noteGains_13 rfl ?_
  refine ga_get kf_X5_46 (shC hc _) (gvv (nI (K 0 2)) (by have hl := gt_isC_lt hc; rw [gt_wr_ne _ _ (by omega)]; exact hK.1.2.2.1)) dX5_noteGains_14 ?_
  refine ga_iconst (nI 1) dX5_noteGains_17 (by decide) ?_
  refine ga_isub dX5_noteGains_18 ?_
  refine ga_top (gx_seat (K 0 2)) rfl ?_
  refine gs_istore [(0, _), (1, _), (2, _), (3, _), (4, _), (5, _)] dX5_noteGains_19 (by decide) rfl rfl ?_
  have hl := gt_isC_lt hc
  have hK := gx_Co_eq (w' := gt_wr w (134 + K 0 2) (gx_fill (w (134 + K 0 2)) (nI 0) 7)) hc (fun a ha => gt_wr_ne _ _ (by omega)) hK
  have hV := gx_St_eq (w' := gt_wr w (134 + K 0 2) (gx_fill (w (134 + K 0 2)) (nI 0) 7)) (fun a h1 h2 => gt_wr_ne _ _ (by omega)) hV
  have hF : ∀ a, (a < 127 ∨ 141 ≤ a) → a ≠ 133 → (gt_wr w (134 + K 0 2) (gx_fill (w (134 + K 0 2)) (nI 0) 7)) a = w a := fun a h1 h2 => gt_wr_ne _ _ (by have := kw.2.2.1; omega)
  have hG : gx_Gn (gt_wr w (134 + K 0 2) (gx_fill (w (134 + K 0 2)) (nI 0) 7)) K V m k9 n9 (K 0 2) := ⟨fun q t h1 h2 h3 => by omega, fun q i h1 h2 h3 => by
      rw [show q = K 0 2 by omega, gt_wr_eq, Nat.sub_self]
      exact if_pos (by omega)⟩
  have loop : ∀ j, j ≤ K 0 2 → ∀ w2 : gt_W, gx_Co w2 c K → gx_St w2 20 K V m → (∀ a, (a < 127 ∨ 141 ≤ a) → a ≠ 133 → w2 a = w a) → gx_Gn w2 K V m k9 n9 j → gt_A l G RX5 "noteGains" cX5_noteGains 9 none (gt_rm 3 0 0) (gt_ZD G n (fun r w' => r = none ∧ (∀ a, (a < 127 ∨ 141 ≤ a) → a ≠ 133 → w' a = w a) ∧ gx_Gn w' K V m k9 n9 0)) (n, 0, 0) 21 [(0, .ref 123), (1, .ref c), (2, .ref 20), (3, .int (nI k9)), (4, .int (nI n9)), (5, .int (gx_seat j))] [] (gt_enc w2) := by
    intro j
    induction j with
    | zero =>
      intro hj w2 hK hV hF hG
      refine ga_iload 5 dX5_noteGains_21 rfl ?_
      refine ga_if_lt 130 dX5_noteGains_23 (by decide) (fun c_23 => ?_) (fun c_23 => absurd (by decide) c_23)
      exact gd_vret dX5_noteGains_130 ⟨rfl, hF, hG⟩
    | succ p ih =>
      intro hj w2 hK hV hF hG
      have hP6 := kw.2.2.1
      refine ga_lvE (lv' := [(0, _), (1, _), (2, _), (3, _), (4, _), (5, .int (nI p))]) (by rw [gx_seat_s]) ?_
      refine ga_iload 5 dX5_noteGains_21 rfl ?_
      refine ga_if_lt 130 dX5_noteGains_23 (by decide) (fun c_23 => absurd c_23 (nI_pos (by omega))) (fun c_23 => ?_)
      refine ga_iconst (nI 0) dX5_noteGains_26 (by decide) ?_
      refine gs_istore [(0, _), (1, _), (2, _), (3, _), (4, _), (5, _), (6, _)] dX5_noteGains_27 (by decide) rfl rfl ?_
      refine ga_iconst (nI 0) dX5_noteGains_29 (by decide) ?_
      refine gs_istore [(0, _), (1, _), (2, _), (3, _), (4, _), (5, _), (6, _), (7, _)] dX5_noteGains_30 (by decide) rfl rfl ?_
      have loop2 : ∀ k2 t, t + k2 = K 0 1 → ∀ w3 : gt_W, gx_Co w3 c K → gx_St w3 20 K V m → (∀ a, (a < 127 ∨ 141 ≤ a) → a ≠ 133 → w3 a = w a) → gx_Gn w3 K V m k9 n9 (p + 1) → (∀ q, q < t → w3 (127 + p) q = nI (gx_g K V m k9 n9 p q)) → gt_A l G RX5 "noteGains" cX5_noteGains 9 none (gt_rm 3 0 0) (gt_ZD G n (fun r w' => r = none ∧ (∀ a, (a < 127 ∨ 141 ≤ a) → a ≠ 133 → w' a = w a) ∧ gx_Gn w' K V m k9 n9 0)) (n, 0, 0) 32 [(0, .ref 123), (1, .ref c), (2, .ref 20), (3, .int (nI k9)), (4, .int (nI n9)), (5, .int (nI p)), (6, .int (nI (gx_mx (gx_g K V m k9 n9 p) t))), (7, .int (nI t))] [] (gt_enc w3) := by
        intro k2
        induction k2 with
        | zero =>
          intro t ht w3 hK hV hF hG hr
          have et : t = K 0 1 := by omega
          refine ga_iload 7 dX5_noteGains_32 rfl ?_
          refine ga_aload_n 1 dX5_noteGains_34 rfl ?_
          refine ga_get kf_X5_49 (shC hc _) (gv hK.1.2.1) dX5_noteGains_35 ?_
          refine ga_icmp_ge 116 dX5_noteGains_38 (by decide) (fun c_38 => ?_) (fun c_38 => absurd (nI_le (by omega) (by have := kw.2.1; omega)) c_38)
          refine ga_aload_n 0 dX5_noteGains_116 rfl ?_
          refine ga_iload 5 dX5_noteGains_117 rfl ?_
          refine ga_iload 6 dX5_noteGains_119 rfl ?_
          refine gd_V2 km_X5_87 kv_X5_noteMostGain (c_X5_noteMostGain (p := p) (x := gx_mx (gx_g K V m k9 n9 p) t) (f := fun i => gx_mg (gx_gm K V m k9 n9) (K 0 2) (K 0 2 - (p + 1)) i) (by omega) (gx_mx_le _ (fun q hq => gx_g_le (vw.2.1 q (by omega)) _ _)) (fun q hq => hG.2 (p + 1) q (by omega) (by omega) hq) (fun q hq => by have h8 := gx_mg_le (f := gx_gm K V m k9 n9) (P := K 0 2) (fun p => gx_mx_le _ (fun q hq => gx_g_le (vw.2.1 q (by omega)) _ _)) (K 0 2 - (p + 1)) q; omega)) (sh123 _) rfl rfl (gt_rc0 (by decide)) (Nat.le_of_ble_eq_true rfl) dX5_noteGains_121 (fun r_121 w_121 q_121 => ?_)
          obtain ⟨rfl, o121, e121⟩ := q_121
          rw [et] at e121 hr
          refine gs_iinc 5 ((-1)) [(0, _), (1, _), (2, _), (3, _), (4, _), (5, _), (6, _), (7, _)] dX5_noteGains_124 rfl (by decide) (by decide) rfl rfl ?_
          refine ga_lvE (lv' := [(0, _), (1, _), (2, _), (3, _), (4, _), (5, .int (gx_seat p)), (6, _), (7, _)]) (by unfold gx_seat; rw [Int32.sub_eq_add_neg]) ?_
          refine ga_goto 21 dX5_noteGains_127 (by decide) ?_
          refine ga_take 6 ?_
          have h9 := ih (by omega) w_121 (gx_Co_eq hc (fun a ha => o121 a (by omega)) hK) (gx_St_eq (fun a h1 h2 => o121 a (by omega)) hV) (fun a h1 h2 => by rw [o121 a (by omega)]; exact hF a h1 h2) ⟨fun q u h1 h2 h3 => by
              rw [o121 (127 + q) (by omega)]
              by_cases e : q = p
              · subst e; exact hr u (by omega)
              · exact hG.1 q u (by omega) h2 h3, fun q i h1 h2 h3 => by
              by_cases e : q = p
              · subst e; rw [e121 i h3, gx_mg_step (P := K 0 2) (p := q) (by omega) i]; rfl
              · rw [o121 (134 + q) (by omega)]; exact hG.2 q i (by omega) h2 h3⟩
          exact h9
        | succ k2 ih =>
          intro t ht w3 hK hV hF hG hr
          have hP6 := kw.2.2.1
          refine ga_iload 7 dX5_noteGains_32 rfl ?_
          refine ga_aload_n 1 dX5_noteGains_34 rfl ?_
          refine ga_get kf_X5_49 (shC hc _) (gv hK.1.2.1) dX5_noteGains_35 ?_
          refine ga_icmp_ge 116 dX5_noteGains_38 (by decide) (fun c_38 => absurd c_38 (nI_ge (by omega) (by have := kw.2.1; omega))) (fun c_38 => ?_)
          refine ga_aload_n 1 dX5_noteGains_41 rfl ?_
          refine ga_iload 7 dX5_noteGains_42 rfl ?_
          refine ga_aload_n 2 dX5_noteGains_44 rfl ?_
          refine ga_get kf_X5_62 (shS isS20 _) rfl dX5_noteGains_45 ?_
          refine ga_iload 7 dX5_noteGains_48 rfl ?_
          refine gl_S1 isS20 hV kw (by omega) dX5_noteGains_50 ?_
          refine ga_iload 4 dX5_noteGains_51 rfl ?_
          refine ga_S2 km_X5_67 kv_X5_letDown (c_X5_letDown (vw.2.1 t (by omega)) hn) (gt_rc0 (by decide)) (Nat.le_of_ble_eq_true rfl) dX5_noteGains_53 ?_
          refine ga_iload_n 3 dX5_noteGains_56 rfl ?_
          refine ga_V3 km_X5_70 kv_X0_bears (c_X0_bears hc hK kw (by omega) (Nat.le_trans (Nat.sub_le _ _) (vw.2.1 t (by omega))) hk) (shC hc _) rfl rfl (gt_rc0 (by decide)) (Nat.le_of_ble_eq_true rfl) dX5_noteGains_57 ?_
          refine gs_istore [(0, _), (1, _), (2, _), (3, _), (4, _), (5, _), (6, _), (7, _), (8, _)] dX5_noteGains_60 (by decide) rfl rfl ?_
          refine ga_aload_n 0 dX5_noteGains_62 rfl ?_
          refine ga_get kf_X5_20 (sh123 _) rfl dX5_noteGains_63 ?_
          refine ga_iload 5 dX5_noteGains_66 rfl ?_
          refine ge_aald sh126 rfl rfl (gt_ixn (by omega)) (if_pos (by omega)) dX5_noteGains_68 ?_
          refine ga_iload 7 dX5_noteGains_69 rfl ?_
          refine ga_aload_n 1 dX5_noteGains_71 rfl ?_
          refine ga_iload 7 dX5_noteGains_72 rfl ?_
          refine ga_aload_n 1 dX5_noteGains_74 rfl ?_
          refine ga_aload_n 2 dX5_noteGains_75 rfl ?_
          refine ga_iload 5 dX5_noteGains_76 rfl ?_
          refine ga_iload 7 dX5_noteGains_78 rfl ?_
          refine ga_iload 4 dX5_noteGains_80 rfl ?_
          refine ga_S5 km_X5_83 kv_X5_woundBy (c_X5_woundBy hc hK kw hV vw (by omega) (by omega) hn) (gt_rc0 (by decide)) (Nat.le_of_ble_eq_true rfl) dX5_noteGains_82 ?_
          refine ga_iload_n 3 dX5_noteGains_85 rfl ?_
          refine ga_V3 km_X5_70 kv_X0_bears (c_X0_bears hc hK kw (by omega) (gx_wb_b (vw.2.1 t (by omega)) n9).2 hk) (shC hc _) rfl rfl (gt_rc0 (by decide)) (Nat.le_of_ble_eq_true rfl) dX5_noteGains_86 ?_
          refine ga_iload 8 dX5_noteGains_89 rfl ?_
          refine ga_isub dX5_noteGains_91 ?_
          refine ga_top (nI (gx_g K V m k9 n9 p t)) (pk_sub (gx_bears_mono (gx_wb_b (vw.2.1 t (by omega)) n9).1 _ _ _)) ?_
          refine gw_iast (shRow (b := 127) (k := p) (Or.inl ⟨rfl, rfl, by omega⟩)) (k := t) (gt_ixn (by have := kw.2.1; omega)) dX5_noteGains_92 (fun w_92 o_92 e_92 => ?_)
          refine ga_iload 6 dX5_noteGains_93 rfl ?_
          refine ga_aload_n 0 dX5_noteGains_95 rfl ?_
          refine ga_get kf_X5_20 (sh123 _) rfl dX5_noteGains_96 ?_
          refine ga_iload 5 dX5_noteGains_99 rfl ?_
          refine ge_aald sh126 rfl rfl (gt_ixn (by omega)) (if_pos (by omega)) dX5_noteGains_101 ?_
          refine ga_iload 7 dX5_noteGains_102 rfl ?_
          refine ge_ialdE (shRow (b := 127) (k := p) (Or.inl ⟨rfl, rfl, by omega⟩)) (gt_ixn (by have := kw.2.1; omega)) (v := nI (gx_g K V m k9 n9 p t)) (by rw [e_92, upd_eq]) dX5_noteGains_104 ?_
          refine ga_max km_X5_74 kmath_max (gt_room0 (by decide)) (Nat.le_of_ble_eq_true rfl) dX5_noteGains_105 ?_
          refine ga_top (nI (max (gx_mx (gx_g K V m k9 n9 p) t) (gx_g K V m k9 n9 p t))) (gx_maxN (by have := gx_mx_le (f := gx_g K V m k9 n9 p) (b := 99) t (fun q hq => gx_g_le (vw.2.1 q (by omega)) _ _); omega) (by have := gx_g_le (K := K) (m := m) (p := p) (vw.2.1 t (by omega)) k9 n9; omega)) ?_
          refine gs_istore [(0, _), (1, _), (2, _), (3, _), (4, _), (5, _), (6, _), (7, _), (8, _)] dX5_noteGains_108 (by decide) rfl rfl ?_
          refine gs_iincN 7 1 [(0, _), (1, _), (2, _), (3, _), (4, _), (5, _), (6, _), (7, _), (8, _)] dX5_noteGains_110 rfl (by decide) (by decide) rfl rfl ?_
          refine ga_goto 32 dX5_noteGains_113 (by decide) ?_
          refine ga_take 8 ?_
          refine ih (t + 1) (by omega) _ (gx_Co_eq hc (fun a ha => o_92 a (by omega)) hK) (gx_St_eq (fun a h1 h2 => o_92 a (by omega)) hV) (fun a h1 h2 => by rw [o_92 a (by omega)]; exact hF a h1 h2) ⟨fun q u h1 h2 h3 => by rw [o_92 (127 + q) (by omega)]; exact hG.1 q u h1 h2 h3, fun q i h1 h2 h3 => by rw [o_92 (134 + q) (by omega)]; exact hG.2 q i h1 h2 h3⟩ (fun q hq => ?_)
          rw [e_92]
          by_cases e : q = t
          · subst e; rw [upd_eq]
          · rw [upd_ne _ _ e]; exact hr q (by omega)
      exact loop2 (K 0 1) 0 (by omega) _ hK hV hF hG (fun q hq => by omega)
  exact loop (K 0 2) (Nat.le_refl _) _ hK hV hF hG
