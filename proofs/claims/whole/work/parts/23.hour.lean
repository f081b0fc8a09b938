theorem gt_wr_wr (w : gt_W) (a : Nat) (f g : Nat → Int32) : gt_wr (gt_wr w a f) a g = gt_wr w a g := by
  funext k
  unfold gt_wr
  by_cases h : k = a <;> simp [h]
theorem gt_wr_self (w : gt_W) (a : Nat) : gt_wr w a (w a) = w := by
  funext k
  unfold gt_wr
  by_cases h : k = a
  · simp [h]
  · simp [h]
def gx_fill (f : Nat → Int32) (x : Int32) (n : Nat) : Nat → Int32 := fun j => if j < n then x else f j
theorem gx_fill_s (f : Nat → Int32) (x : Int32) (n : Nat) : upd (gx_fill f x n) n x = gx_fill f x (n + 1) := by
  funext j
  unfold upd gx_fill
  by_cases h : j = n
  · subst h; simp
  · by_cases q : j < n
    · simp [h, q, Nat.lt_succ_of_lt q]
    · simp [h, q, show ¬ j < n + 1 by omega]
/-- where a boat goes next -/
def gx_next (K V : gx_K) (b : Nat) : Nat := if V 4 b < K 7 b then V 4 b + 1 else V 4 b - 1
/-- the hour's part of boat b -/
def gx_sail (K V : gx_K) (b : Nat) : gx_K := if V 4 b = K 7 b then V else if K 5 b ≤ min (gx_dep K V (V 4 b)) (gx_dep K V (gx_next K V b)) then gx_up V 4 b (gx_next K V b) else V
def gx_sb (K U : gx_K) : Nat → gx_K
  | 0 => U
  | b + 1 => gx_sail K (gx_sb K U b) b
/-- an hour -/
def gx_hour (K V : gx_K) (m : Int32) : gx_K := gx_up (gx_sb K (gx_wind K V m) (K 0 3)) 0 0 (V 0 0 + 1)
theorem gx_sail_row {K V : gx_K} {b i : Nat} (h : i ≠ 4) (j : Nat) : gx_sail K V b i j = V i j := by
  unfold gx_sail
  split
  · rfl
  · split
    · rw [gx_up_row h]
    · rfl
theorem gx_sb_row {K U : gx_K} {i : Nat} (h : i ≠ 4) (j : Nat) : ∀ b, gx_sb K U b i j = U i j
  | 0 => rfl
  | b + 1 => by
    show gx_sail K (gx_sb K U b) b i j = _
    rw [gx_sail_row h, gx_sb_row h j b]
theorem gx_next_lt {K V : gx_K} (kw : gx_KW K) (vw : gx_VW K V) {b : Nat} (hb : b < K 0 3) (hn : ¬ V 4 b = K 7 b) : gx_next K V b < K 0 0 := by
  have h1 := vw.2.2.2.2 b hb
  have h2 := kw.2.2.2.2.2.2.2.2.2.2.1 b hb
  unfold gx_next
  split <;> omega
theorem gx_sail_VW {K V : gx_K} (kw : gx_KW K) (vw : gx_VW K V) {b : Nat} (hb : b < K 0 3) : gx_VW K (gx_sail K V b) := by
  refine ⟨Nat.zero_le _, fun j hj => by rw [gx_sail_row (by decide)]; exact vw.2.1 j hj, fun j hj => by rw [gx_sail_row (by decide)]; exact vw.2.2.1 j hj, fun j hj => by rw [gx_sail_row (by decide)]; exact vw.2.2.2.1 j hj, fun j hj => ?_⟩
  unfold gx_sail
  split
  · exact vw.2.2.2.2 j hj
  · rename_i hn
    split
    · by_cases e : j = b
      · subst e; rw [gx_up_eq]; exact gx_next_lt kw vw hj hn
      · rw [gx_up_col e]; exact vw.2.2.2.2 j hj
    · exact vw.2.2.2.2 j hj
theorem gx_sb_VW {K U : gx_K} (kw : gx_KW K) (vw : gx_VW K U) : ∀ b, b ≤ K 0 3 → gx_VW K (gx_sb K U b)
  | 0, _ => vw
  | b + 1, h => gx_sail_VW kw (gx_sb_VW kw vw b (by omega)) (by omega)
theorem gx_up0_VW {K V : gx_K} {v : Nat} (vw : gx_VW K V) : gx_VW K (gx_up V 0 0 v) :=
  ⟨Nat.zero_le _, fun j hj => by rw [gx_up_row (by decide)]; exact vw.2.1 j hj, fun j hj => by rw [gx_up_row (by decide)]; exact vw.2.2.1 j hj, fun j hj => by rw [gx_up_row (by decide)]; exact vw.2.2.2.1 j hj, fun j hj => by rw [gx_up_row (by decide)]; exact vw.2.2.2.2 j hj⟩
theorem gx_hour_VW {K V : gx_K} {m : Int32} (kw : gx_KW K) (vw : gx_VW K V) : gx_VW K (gx_hour K V m) := gx_up0_VW (gx_sb_VW kw (gx_wind_VW vw) _ (Nat.le_refl _))
theorem gx_dep_le {K V : gx_K} (kw : gx_KW K) (vw : gx_VW K V) (k : Nat) : gx_dep K V k ≤ 594 := by
  have := gx_sea_le kw vw k
  unfold gx_dep
  omega
theorem gx_minN {a b : Nat} (ha : a < 2 ^ 30) (hb : b < 2 ^ 30) : (if nI b < nI a then nI b else nI a) = nI (min a b) := by
  by_cases q : b < a
  · rw [if_pos (nI_lt q (by omega)), Nat.min_eq_right (by omega)]
  · rw [if_neg (nI_nlt (by omega) (by omega)), Nat.min_eq_left (by omega)]
/-- the start of a coast -/
def gx_begin (K : gx_K) : gx_K := fun i j => if i = 4 then K 6 j else 0
theorem gx_begin_VW {K : gx_K} (kw : gx_KW K) : gx_VW K (gx_begin K) := ⟨Nat.zero_le _, fun _ _ => Nat.zero_le _, fun _ _ => Nat.zero_le _, fun _ _ => Nat.zero_le _, fun j hj => kw.2.2.2.2.2.2.2.2.2.1 j hj⟩
theorem gx_cpy0 {f g : Nat → Int32} {n j : Nat} (h : j < n) : va_cpy f g 0 0 n j = f j := by
  unfold va_cpy
  rw [if_pos (by omega)]
  congr 1
  omega
/-- the memory behind State.copy -/
theorem gx_copied {w : gt_W} {s s2 : Nat} (hd : s + 5 ≤ s2 ∨ s2 + 5 ≤ s) {w1 w2 w3 w4 w5 w6 : gt_W} (e1 : w1 = gt_wr w s (upd (w s) 0 (w s2 0)) := by rfl) (e2 : w2 = gt_wr w1 s (upd (w1 s) 1 (w1 s2 1)) := by rfl) (e3 : w3 = gt_wr w2 (s + 1) (va_cpy (w2 (s2 + 1)) (w2 (s + 1)) 0 0 6) := by rfl) (e4 : w4 = gt_wr w3 (s + 2) (va_cpy (w3 (s2 + 2)) (w3 (s + 2)) 0 0 6) := by rfl) (e5 : w5 = gt_wr w4 (s + 3) (va_cpy (w4 (s2 + 3)) (w4 (s + 3)) 0 0 6) := by rfl) (e6 : w6 = gt_wr w5 (s + 4) (va_cpy (w5 (s2 + 4)) (w5 (s + 4)) 0 0 4) := by rfl) :
    ∀ (K V : gx_K) (m : Int32), gx_KW K → gx_St w s2 K V m → gx_St w6 s K V m := by
  intro K V m kw h
  have k1 := kw.2.1
  have k2 := kw.2.2.1
  have k3 := kw.2.2.2.1
  have o : ∀ a, (a < s ∨ s + 5 ≤ a) → w1 a = w a ∧ w2 a = w a ∧ w3 a = w a ∧ w4 a = w a ∧ w5 a = w a := fun a ha => by
    have a1 : w1 a = w a := by rw [e1, gt_wr_ne _ _ (by omega)]
    have a2 : w2 a = w a := by rw [e2, gt_wr_ne _ _ (by omega), a1]
    have a3 : w3 a = w a := by rw [e3, gt_wr_ne _ _ (by omega), a2]
    have a4 : w4 a = w a := by rw [e4, gt_wr_ne _ _ (by omega), a3]
    have a5 : w5 a = w a := by rw [e5, gt_wr_ne _ _ (by omega), a4]
    exact ⟨a1, a2, a3, a4, a5⟩
  obtain ⟨h0, hm, h1, h2, h3, h4⟩ := h
  have r0 : w6 s = w2 s := by rw [e6, gt_wr_ne _ _ (by omega), e5, gt_wr_ne _ _ (by omega), e4, gt_wr_ne _ _ (by omega), e3, gt_wr_ne _ _ (by omega)]
  refine ⟨?_, ?_, fun j hj => ?_, fun j hj => ?_, fun j hj => ?_, fun j hj => ?_⟩
  · rw [r0, e2, gt_wr_eq, upd_ne _ _ (by decide), e1, gt_wr_eq, upd_eq]; exact h0
  · rw [r0, e2, gt_wr_eq, upd_eq, (o s2 (by omega)).1]; exact hm
  · rw [e6, gt_wr_ne _ _ (by omega), e5, gt_wr_ne _ _ (by omega), e4, gt_wr_ne _ _ (by omega), e3, gt_wr_eq, gx_cpy0 (by omega), (o (s2 + 1) (by omega)).2.1]; exact h1 j hj
  · rw [e6, gt_wr_ne _ _ (by omega), e5, gt_wr_ne _ _ (by omega), e4, gt_wr_eq, gx_cpy0 (by omega), (o (s2 + 2) (by omega)).2.2.1]; exact h2 j hj
  · rw [e6, gt_wr_ne _ _ (by omega), e5, gt_wr_eq, gx_cpy0 (by omega), (o (s2 + 3) (by omega)).2.2.2.1]; exact h3 j hj
  · rw [e6, gt_wr_eq, gx_cpy0 (by omega), (o (s2 + 4) (by omega)).2.2.2.2]; exact h4 j hj
set_option maxRecDepth 100000 in
set_option maxHeartbeats 4000000 in
theorem c_J7_fill_53178 {l : Launch} {G : gt_G} {n : Nat} {w : gt_W} {a N : Nat} {x : Int32} (ha : ∀ r, gt_sh a r = some (oI N r)) (hN : N < 2 ^ 31) : gt_C l G yJ7_fill_53178 cJ7_fill_53178 4 none 1 0 0 n [.ref a, .int x] (gt_enc w) (none) (gt_enc (gt_wr w a (gx_fill (w a) x N))) := by
  refine gt_C_of (own := RJ7) (nm := "fill") rfl rfl (by decide +kernel) (Nat.le_of_ble_eq_true rfl) ?_
  show gt_A _ _ _ _ _ _ _ _ _ _ _ [(0, .ref a), (1, .int x)] _ _
  refine ga_iconst (nI 0) dJ7_fill_53178_0 (by decide) ?_
  refine gs_istore_n [(0, _), (1, _), (2, _)] dJ7_fill_53178_1 (by decide) rfl rfl ?_
  refine ga_aload_n 0 dJ7_fill_53178_2 rfl ?_
  refine ga_alen (ha _) dJ7_fill_53178_3 ?_
  refine ga_top (nI N) rfl ?_
  refine gs_istore_n [(0, _), (1, _), (2, _), (3, _)] dJ7_fill_53178_4 (by decide) rfl rfl ?_
  have loop : ∀ k t, t + k = N → gt_A l G RJ7 "fill" cJ7_fill_53178 4 none (gt_rm 1 0 0) (gt_Z G (n + 0) 0 0 (none) (gt_enc (gt_wr w a (gx_fill (w a) x N)))) (n, 0, 0) 5 [(0, .ref a), (1, .int x), (2, .int (nI t)), (3, .int (nI N))] [] (gt_enc (gt_wr w a (gx_fill (w a) x t))) := by
    intro k
    induction k with
    | zero =>
      intro t ht
      have et : t = N := by omega
      refine ga_iload_n 2 dJ7_fill_53178_5 rfl ?_
      refine ga_iload_n 3 dJ7_fill_53178_6 rfl ?_
      refine ga_icmp_ge 20 dJ7_fill_53178_7 (by decide) (fun c_7 => ?_) (fun c_7 => absurd (nI_le (by omega) (by omega)) c_7)
      exact ga_vret dJ7_fill_53178_20 rfl (by rw [et]; exact fun _ _ q => q)
    | succ k ih =>
      intro t ht
      refine ga_iload_n 2 dJ7_fill_53178_5 rfl ?_
      refine ga_iload_n 3 dJ7_fill_53178_6 rfl ?_
      refine ga_icmp_ge 20 dJ7_fill_53178_7 (by decide) (fun c_7 => absurd c_7 (nI_ge (by omega) (by omega))) (fun c_7 => ?_)
      refine ga_aload_n 0 dJ7_fill_53178_10 rfl ?_
      refine ga_iload_n 2 dJ7_fill_53178_11 rfl ?_
      refine ga_iload_n 1 dJ7_fill_53178_12 rfl ?_
      refine ge_iast ha (gt_ixn (by omega) hN) dJ7_fill_53178_13 ?_
      refine gs_iincN 2 1 [(0, _), (1, _), (2, _), (3, _)] dJ7_fill_53178_14 rfl (by decide) (by decide) rfl rfl ?_
      refine ga_goto 5 dJ7_fill_53178_17 (by decide) ?_
      have h9 := ih (t + 1) (by omega)
      rw [gt_wr_eq, gt_wr_wr, gx_fill_s]
      exact h9
  have h0 := loop N 0 (by omega)
  rw [show gx_fill (w a) x 0 = w a from rfl, gt_wr_self] at h0
  exact h0
set_option maxRecDepth 100000 in
set_option maxHeartbeats 4000000 in
theorem c_X8_sail {l : Launch} {G : gt_G} {n : Nat} {w : gt_W} {s c : Nat} {K V : gx_K} {m : Int32} {b : Nat} (hc : gt_isC c) (hK : gx_Co w c K) (kw : gx_KW K) (hs : gt_isS s) (hV : gx_St w s K V m) (vw : gx_VW K V) (hb : b < K 0 3) : gt_D l G yX8_sail cX8_sail 5 none 4 n [.ref s, .ref c, .int (nI b)] w (fun r w' => r = none ∧ gx_Fr w w' s (s + 5) ∧ gx_St w' s K (gx_sail K V b) m) := by
  have h1 := vw.2.2.2.2 b hb
  have h2 := kw.2.2.2.2.2.2.2.2.2.2.1 b hb
  have h3 := kw.1
  have h5 := kw.2.2.2.2.2.2.2.2.1 b hb
  have hF : gx_Fr w w s (s + 5) := gx_Fr_rf
  refine gt_D_of (own := RX8) (nm := "sail") rfl rfl (by decide +kernel) (Nat.le_of_ble_eq_true rfl) ?_
  show gt_A _ _ _ _ _ _ _ _ _ _ _ [(0, .ref s), (1, .ref c), (2, .int (nI b))] _ _
  refine ga_aload_n 0 dX8_sail_0 rfl ?_
  refine ga_get kf_X8_21 (shS hs _) rfl dX8_sail_1 ?_
  refine ga_iload_n 2 dX8_sail_4 rfl ?_
  refine gl_S4 hs hV kw hb dX8_sail_5 ?_
  refine gs_istore_n [(0, _), (1, _), (2, _), (3, _)] dX8_sail_6 (by decide) rfl rfl ?_
  refine ga_iload_n 3 dX8_sail_7 rfl ?_
  refine ga_aload_n 1 dX8_sail_8 rfl ?_
  refine ga_get kf_X8_88 (shC hc _) rfl dX8_sail_9 ?_
  refine ga_iload_n 2 dX8_sail_12 rfl ?_
  refine gl_C7 hc hK kw hb dX8_sail_13 ?_
  refine ga_icmp_ne 18 dX8_sail_14 (by decide) (fun c_14 => ?_) (fun c_14 => ?_)
  · have hne : ¬ V 4 b = K 7 b := fun q => c_14 (by rw [q])
    refine ga_iload_n 3 dX8_sail_18 rfl ?_
    refine ga_aload_n 1 dX8_sail_19 rfl ?_
    refine ga_get kf_X8_88 (shC hc _) rfl dX8_sail_20 ?_
    refine ga_iload_n 2 dX8_sail_23 rfl ?_
    refine gl_C7 hc hK kw hb dX8_sail_24 ?_
    refine ga_icmp_ge 34 dX8_sail_25 (by decide) (fun c_25 => ?_) (fun c_25 => ?_)
    · refine ga_iload_n 3 dX8_sail_34 rfl ?_
      refine ga_iconst (nI 1) dX8_sail_35 (by decide) ?_
      refine ga_isub dX8_sail_36 ?_
      refine ga_top (nI (gx_next K V b)) (by unfold gx_next; first | (have h9 := (nI_leI (by omega) (by omega)).mp c_25; rw [if_neg (by omega), pk_sub (by omega)]) | rw [if_pos (Nat.lt_of_not_le (fun q => c_25 (nI_le q (by omega)))), nI_add]) ?_
      refine gs_istore [(0, _), (1, _), (2, _), (3, _), (4, _)] dX8_sail_37 (by decide) rfl rfl ?_
      refine ga_aload_n 0 dX8_sail_39 rfl ?_
      refine ga_aload_n 1 dX8_sail_40 rfl ?_
      refine ga_iload_n 3 dX8_sail_41 rfl ?_
      refine ga_V2 km_X8_91 kv_X8_depthAt (c_X8_depthAt hc hK kw hs hV vw h1) (shS hs _) rfl rfl (gt_rc0 (by decide)) (Nat.le_of_ble_eq_true rfl) dX8_sail_42 ?_
      refine ga_aload_n 0 dX8_sail_45 rfl ?_
      refine ga_aload_n 1 dX8_sail_46 rfl ?_
      refine ga_iload 4 dX8_sail_47 rfl ?_
      refine ga_V2 km_X8_91 kv_X8_depthAt (c_X8_depthAt hc hK kw hs hV vw (gx_next_lt kw vw hb hne)) (shS hs _) rfl rfl (gt_rc0 (by decide)) (Nat.le_of_ble_eq_true rfl) dX8_sail_49 ?_
      refine ga_min km_X8_76 kmath_min (gt_room0 (by decide)) (Nat.le_of_ble_eq_true rfl) dX8_sail_52 ?_
      refine ga_top _ (gx_minN (by have := gx_dep_le kw vw (V 4 b); omega) (by have := gx_dep_le kw vw (gx_next K V b); omega)) ?_
      refine ga_aload_n 1 dX8_sail_55 rfl ?_
      refine ga_get kf_X8_95 (shC hc _) rfl dX8_sail_56 ?_
      refine ga_iload_n 2 dX8_sail_59 rfl ?_
      refine gl_C5 hc hK kw hb dX8_sail_60 ?_
      refine ga_icmp_lt 72 dX8_sail_61 (by decide) (fun c_61 => ?_) (fun c_61 => ?_)
      · refine gd_vret dX8_sail_72 ?_
        first
        | exact ⟨rfl, hF, by unfold gx_sail; rw [if_neg hne, if_pos (Nat.le_of_not_lt (fun q => c_61 (nI_lt q (by omega))))]; exact hV⟩
        | exact ⟨rfl, hF, by unfold gx_sail; rw [if_neg hne, if_neg (fun q => absurd c_61 (nI_nlt q (by have := gx_dep_le kw vw (V 4 b); omega)))]; exact hV⟩
      · refine ga_aload_n 0 dX8_sail_64 rfl ?_
        refine ga_get kf_X8_21 (shS hs _) rfl dX8_sail_65 ?_
        refine ga_iload_n 2 dX8_sail_68 rfl ?_
        refine ga_iload 4 dX8_sail_69 rfl ?_
        refine gw_S4 hc hK kw hs hV hF hb dX8_sail_71 (fun w1 hK hV hF => ?_)
        refine gd_vret dX8_sail_72 ?_
        first
        | exact ⟨rfl, hF, by unfold gx_sail; rw [if_neg hne, if_pos (Nat.le_of_not_lt (fun q => c_61 (nI_lt q (by omega))))]; exact hV⟩
        | exact ⟨rfl, hF, by unfold gx_sail; rw [if_neg hne, if_neg (fun q => absurd c_61 (nI_nlt q (by have := gx_dep_le kw vw (V 4 b); omega)))]; exact hV⟩
    · refine ga_iload_n 3 dX8_sail_28 rfl ?_
      refine ga_iconst (nI 1) dX8_sail_29 (by decide) ?_
      refine ga_iadd dX8_sail_30 ?_
      refine ga_goto 37 dX8_sail_31 (by decide) ?_
      refine ga_top (nI (gx_next K V b)) (by unfold gx_next; first | (have h9 := (nI_leI (by omega) (by omega)).mp c_25; rw [if_neg (by omega), pk_sub (by omega)]) | rw [if_pos (Nat.lt_of_not_le (fun q => c_25 (nI_le q (by omega)))), nI_add]) ?_
      refine gs_istore [(0, _), (1, _), (2, _), (3, _), (4, _)] dX8_sail_37 (by decide) rfl rfl ?_
      refine ga_aload_n 0 dX8_sail_39 rfl ?_
      refine ga_aload_n 1 dX8_sail_40 rfl ?_
      refine ga_iload_n 3 dX8_sail_41 rfl ?_
      refine ga_V2 km_X8_91 kv_X8_depthAt (c_X8_depthAt hc hK kw hs hV vw h1) (shS hs _) rfl rfl (gt_rc0 (by decide)) (Nat.le_of_ble_eq_true rfl) dX8_sail_42 ?_
      refine ga_aload_n 0 dX8_sail_45 rfl ?_
      refine ga_aload_n 1 dX8_sail_46 rfl ?_
      refine ga_iload 4 dX8_sail_47 rfl ?_
      refine ga_V2 km_X8_91 kv_X8_depthAt (c_X8_depthAt hc hK kw hs hV vw (gx_next_lt kw vw hb hne)) (shS hs _) rfl rfl (gt_rc0 (by decide)) (Nat.le_of_ble_eq_true rfl) dX8_sail_49 ?_
      refine ga_min km_X8_76 kmath_min (gt_room0 (by decide)) (Nat.le_of_ble_eq_true rfl) dX8_sail_52 ?_
      refine ga_top _ (gx_minN (by have := gx_dep_le kw vw (V 4 b); omega) (by have := gx_dep_le kw vw (gx_next K V b); omega)) ?_
      refine ga_aload_n 1 dX8_sail_55 rfl ?_
      refine ga_get kf_X8_95 (shC hc _) rfl dX8_sail_56 ?_
      refine ga_iload_n 2 dX8_sail_59 rfl ?_
      refine gl_C5 hc hK kw hb dX8_sail_60 ?_
      refine ga_icmp_lt 72 dX8_sail_61 (by decide) (fun c_61 => ?_) (fun c_61 => ?_)
      · refine gd_vret dX8_sail_72 ?_
        first
        | exact ⟨rfl, hF, by unfold gx_sail; rw [if_neg hne, if_pos (Nat.le_of_not_lt (fun q => c_61 (nI_lt q (by omega))))]; exact hV⟩
        | exact ⟨rfl, hF, by unfold gx_sail; rw [if_neg hne, if_neg (fun q => absurd c_61 (nI_nlt q (by have := gx_dep_le kw vw (V 4 b); omega)))]; exact hV⟩
      · refine ga_aload_n 0 dX8_sail_64 rfl ?_
        refine ga_get kf_X8_21 (shS hs _) rfl dX8_sail_65 ?_
        refine ga_iload_n 2 dX8_sail_68 rfl ?_
        refine ga_iload 4 dX8_sail_69 rfl ?_
        refine gw_S4 hc hK kw hs hV hF hb dX8_sail_71 (fun w1 hK hV hF => ?_)
        refine gd_vret dX8_sail_72 ?_
        first
        | exact ⟨rfl, hF, by unfold gx_sail; rw [if_neg hne, if_pos (Nat.le_of_not_lt (fun q => c_61 (nI_lt q (by omega))))]; exact hV⟩
        | exact ⟨rfl, hF, by unfold gx_sail; rw [if_neg hne, if_neg (fun q => absurd c_61 (nI_nlt q (by have := gx_dep_le kw vw (V 4 b); omega)))]; exact hV⟩
  · exact gd_vret dX8_sail_17 ⟨rfl, gx_Fr_rf, by unfold gx_sail; rw [if_pos ((nI_eq (by omega) (by omega)).mp c_14)]; exact hV⟩
set_option maxRecDepth 100000 in
set_option maxHeartbeats 4000000 in
theorem c_X8_passHour {l : Launch} {G : gt_G} {n : Nat} {w : gt_W} {s c : Nat} {K V : gx_K} {m : Int32} (hc : gt_isC c) (hK : gx_Co w c K) (kw : gx_KW K) (hs : gt_isS s) (hV : gx_St w s K V m) (vw : gx_VW K V) : gt_D l G yX8_passHour cX8_passHour 3 none 5 n [.ref s, .ref c] w (fun r w' => r = none ∧ gx_Fr w w' s (s + 5) ∧ gx_St w' s K (gx_hour K V m) m) := by
  refine gt_D_of (own := RX8) (nm := "passHour") rfl rfl (by decide +kernel) (Nat.le_of_ble_eq_true rfl) ?_
  show gt_A _ _ _ _ _ _ _ _ _ _ _ [(0, .ref s), (1, .ref c)] _ _
  refine ga_aload_n 0 dX8_passHour_0 rfl ?_
  refine ga_aload_n 1 dX8_passHour_1 rfl ?_
  refine gd_V1 km_X8_54 kv_X8_wind (c_X8_wind hc hK kw hs hV vw) (shS hs _) rfl rfl (gt_rc0 (by decide)) (Nat.le_of_ble_eq_true rfl) dX8_passHour_2 (fun r_2 w_2 q_2 => ?_)
  obtain ⟨rfl, hF, hV⟩ := q_2
  have hK := gx_Co_fr hc hs hF hK
  refine ga_iconst (nI 0) dX8_passHour_5 (by decide) ?_
  refine gs_istore_n [(0, _), (1, _), (2, _)] dX8_passHour_6 (by decide) rfl rfl ?_
  have loop : ∀ k t, t + k = K 0 3 → ∀ w1 : gt_W, gx_Co w1 c K → gx_St w1 s K (gx_sb K (gx_wind K V m) t) m → gx_Fr w w1 s (s + 5) → gt_A l G RX8 "passHour" cX8_passHour 3 none (gt_rm 5 0 0) (gt_ZD G n (fun r w' => r = none ∧ gx_Fr w w' s (s + 5) ∧ gx_St w' s K (gx_hour K V m) m)) (n, 0, 0) 7 [(0, .ref s), (1, .ref c), (2, .int (nI t))] [] (gt_enc w1) := by
    intro k
    induction k with
    | zero =>
      intro t ht w1 hK hV hF
      have et : t = K 0 3 := by omega
      refine ga_iload_n 2 dX8_passHour_7 rfl ?_
      refine ga_aload_n 1 dX8_passHour_8 rfl ?_
      refine ga_get kf_X8_37 (shC hc _) (gv hK.1.2.2.2) dX8_passHour_9 ?_
      refine ga_icmp_ge 27 dX8_passHour_12 (by decide) (fun c_12 => ?_) (fun c_12 => absurd (nI_le (by omega) (by have := kw.2.2.2.1; omega)) c_12)
      refine ga_aload_n 0 dX8_passHour_27 rfl ?_
      refine ga_dup dX8_passHour_28 rfl ?_
      refine ga_get kf_X8_24 (shS hs _) (gv hV.1) dX8_passHour_29 ?_
      refine ga_iconst (nI 1) dX8_passHour_32 (by decide) ?_
      refine ga_iadd dX8_passHour_33 ?_
      refine ga_top (nI (gx_sb K (gx_wind K V m) t 0 0 + 1)) (nI_add _ 1) ?_
      refine gp_int 0 kp_X8_24 (shS hs _) (shS hs _) rfl rfl (Nat.le_of_ble_eq_true rfl) dX8_passHour_34 ?_
      exact gd_vret dX8_passHour_37 ⟨rfl, gx_Fr_wr hF (by omega) (by omega), by have h9 := gx_St_0 (v := gx_sb K (gx_wind K V m) t 0 0 + 1) hV; rw [gx_sb_row (by decide), gx_wind_row (by decide) (by decide), et] at h9; rw [gx_sb_row (by decide), gx_wind_row (by decide) (by decide)]; exact h9⟩
    | succ k ih =>
      intro t ht w1 hK hV hF
      refine ga_iload_n 2 dX8_passHour_7 rfl ?_
      refine ga_aload_n 1 dX8_passHour_8 rfl ?_
      refine ga_get kf_X8_37 (shC hc _) (gv hK.1.2.2.2) dX8_passHour_9 ?_
      refine ga_icmp_ge 27 dX8_passHour_12 (by decide) (fun c_12 => absurd c_12 (nI_ge (by omega) (by have := kw.2.2.2.1; omega))) (fun c_12 => ?_)
      refine ga_aload_n 0 dX8_passHour_15 rfl ?_
      refine ga_aload_n 1 dX8_passHour_16 rfl ?_
      refine ga_iload_n 2 dX8_passHour_17 rfl ?_
      refine gd_V2 km_X8_58 kv_X8_sail (c_X8_sail hc hK kw hs hV (gx_sb_VW kw (gx_wind_VW vw) t (by omega)) (by omega)) (shS hs _) rfl rfl (gt_rc0 (by decide)) (Nat.le_of_ble_eq_true rfl) dX8_passHour_18 (fun r_18 w_18 q_18 => ?_)
      obtain ⟨rfl, hF1, hV⟩ := q_18
      have hK := gx_Co_fr hc hs hF1 hK
      have hF := gx_Fr_tr hF hF1
      refine gs_iincN 2 1 [(0, _), (1, _), (2, _)] dX8_passHour_21 rfl (by decide) (by decide) rfl rfl ?_
      refine ga_goto 7 dX8_passHour_24 (by decide) ?_
      exact ih (t + 1) (by omega) _ hK hV hF
  exact loop (K 0 3) 0 (by omega) _ hK hV hF
set_option maxRecDepth 100000 in
set_option maxHeartbeats 4000000 in
theorem c_X8_copy {l : Launch} {G : gt_G} {n : Nat} {w : gt_W} {s s2 : Nat} (hs : gt_isS s) (hs2 : gt_isS s2) (hd : s + 5 ≤ s2 ∨ s2 + 5 ≤ s) : gt_D l G yX8_copy cX8_copy 2 none 1 n [.ref s, .ref s2] w (fun r w' => r = none ∧ gx_Fr w w' s (s + 5) ∧ ∀ (K V : gx_K) (m : Int32), gx_KW K → gx_St w s2 K V m → gx_St w' s K V m) := by
  refine gt_D_of (own := RX8) (nm := "copy") rfl rfl (by decide +kernel) (Nat.le_of_ble_eq_true rfl) ?_
  show gt_A _ _ _ _ _ _ _ _ _ _ _ [(0, .ref s), (1, .ref s2)] _ _
  refine ga_aload_n 0 dX8_copy_0 rfl ?_
  refine ga_aload_n 1 dX8_copy_1 rfl ?_
  refine ga_get kf_X8_24 (shS hs2 _) rfl dX8_copy_2 ?_
  refine gp_int 0 kp_X8_24 (shS hs _) (shS hs _) rfl rfl (Nat.le_of_ble_eq_true rfl) dX8_copy_5 ?_
  refine ga_aload_n 0 dX8_copy_8 rfl ?_
  refine ga_aload_n 1 dX8_copy_9 rfl ?_
  refine ga_get kf_X8_28 (shS hs2 _) rfl dX8_copy_10 ?_
  refine gp_int 1 kp_X8_28 (shS hs _) (shS hs _) rfl rfl (Nat.le_of_ble_eq_true rfl) dX8_copy_13 ?_
  refine ga_aload_n 1 dX8_copy_16 rfl ?_
  refine ga_get kf_X8_9 (shS hs2 _) rfl dX8_copy_17 ?_
  refine ga_iconst (nI 0) dX8_copy_20 (by decide) ?_
  refine ga_aload_n 0 dX8_copy_21 rfl ?_
  refine ga_get kf_X8_9 (shS hs _) rfl dX8_copy_22 ?_
  refine ga_iconst (nI 0) dX8_copy_25 (by decide) ?_
  refine ga_bipush (nI 6) dX8_copy_26 (by decide) ?_
  refine ge_copy km_X8_45 (shS1 hs2) (shS1 hs) (k0 := 0) (k1 := 0) (m := 6) rfl rfl rfl (by decide) (by decide) (by decide) (gt_room2 (by decide)) (Nat.le_of_ble_eq_true rfl) dX8_copy_28 ?_
  refine ga_aload_n 1 dX8_copy_31 rfl ?_
  refine ga_get kf_X8_15 (shS hs2 _) rfl dX8_copy_32 ?_
  refine ga_iconst (nI 0) dX8_copy_35 (by decide) ?_
  refine ga_aload_n 0 dX8_copy_36 rfl ?_
  refine ga_get kf_X8_15 (shS hs _) rfl dX8_copy_37 ?_
  refine ga_iconst (nI 0) dX8_copy_40 (by decide) ?_
  refine ga_bipush (nI 6) dX8_copy_41 (by decide) ?_
  refine ge_copy km_X8_45 (shS2 hs2) (shS2 hs) (k0 := 0) (k1 := 0) (m := 6) rfl rfl rfl (by decide) (by decide) (by decide) (gt_room2 (by decide)) (Nat.le_of_ble_eq_true rfl) dX8_copy_43 ?_
  refine ga_aload_n 1 dX8_copy_46 rfl ?_
  refine ga_get kf_X8_18 (shS hs2 _) rfl dX8_copy_47 ?_
  refine ga_iconst (nI 0) dX8_copy_50 (by decide) ?_
  refine ga_aload_n 0 dX8_copy_51 rfl ?_
  refine ga_get kf_X8_18 (shS hs _) rfl dX8_copy_52 ?_
  refine ga_iconst (nI 0) dX8_copy_55 (by decide) ?_
  refine ga_bipush (nI 6) dX8_copy_56 (by decide) ?_
  refine ge_copy km_X8_45 (shS3 hs2) (shS3 hs) (k0 := 0) (k1 := 0) (m := 6) rfl rfl rfl (by decide) (by decide) (by decide) (gt_room2 (by decide)) (Nat.le_of_ble_eq_true rfl) dX8_copy_58 ?_
  refine ga_aload_n 1 dX8_copy_61 rfl ?_
  refine ga_get kf_X8_21 (shS hs2 _) rfl dX8_copy_62 ?_
  refine ga_iconst (nI 0) dX8_copy_65 (by decide) ?_
  refine ga_aload_n 0 dX8_copy_66 rfl ?_
  refine ga_get kf_X8_21 (shS hs _) rfl dX8_copy_67 ?_
  refine ga_iconst (nI 0) dX8_copy_70 (by decide) ?_
  refine ga_iconst (nI 4) dX8_copy_71 (by decide) ?_
  refine ge_copy km_X8_45 (shS4 hs2) (shS4 hs) (k0 := 0) (k1 := 0) (m := 4) rfl rfl rfl (by decide) (by decide) (by decide) (gt_room2 (by decide)) (Nat.le_of_ble_eq_true rfl) dX8_copy_72 ?_
  exact gd_vret dX8_copy_75 ⟨rfl, by repeat (first | exact gx_Fr_rf | refine gx_Fr_wr ?_ (by omega) (by omega)), gx_copied hd⟩
set_option maxRecDepth 100000 in
set_option maxHeartbeats 4000000 in
theorem c_X8_begin {l : Launch} {G : gt_G} {n : Nat} {w : gt_W} {s c : Nat} {K : gx_K} (hc : gt_isC c) (hK : gx_Co w c K) (kw : gx_KW K) (hs : gt_isS s) : gt_D l G yX8_begin cX8_begin 3 none 2 n [.ref s, .ref c] w (fun r w' => r = none ∧ gx_Fr w w' s (s + 5) ∧ gx_St w' s K (gx_begin K) (nI 0)) := by
  refine gt_D_of (own := RX8) (nm := "begin") rfl rfl (by decide +kernel) (Nat.le_of_ble_eq_true rfl) ?_
  show gt_A _ _ _ _ _ _ _ _ _ _ _ [(0, .ref s), (1, .ref c)] _ _
  refine ga_aload_n 0 dX8_begin_0 rfl ?_
  refine ga_iconst (nI 0) dX8_begin_1 (by decide) ?_
  refine gp_int 0 kp_X8_24 (shS hs _) (shS hs _) rfl rfl (Nat.le_of_ble_eq_true rfl) dX8_begin_2 ?_
  refine ga_aload_n 0 dX8_begin_5 rfl ?_
  refine ga_iconst (nI 0) dX8_begin_6 (by decide) ?_
  refine gp_int 1 kp_X8_28 (shS hs _) (shS hs _) rfl rfl (Nat.le_of_ble_eq_true rfl) dX8_begin_7 ?_
  refine ga_aload_n 0 dX8_begin_10 rfl ?_
  refine ga_get kf_X8_9 (shS hs _) rfl dX8_begin_11 ?_
  refine ga_iconst (nI 0) dX8_begin_14 (by decide) ?_
  refine ga_S2 km_X8_31 kv_J7_fill_53178 (c_J7_fill_53178 (shS1 hs) (by decide)) (gt_rc0 (by decide)) (Nat.le_of_ble_eq_true rfl) dX8_begin_15 ?_
  refine ga_aload_n 0 dX8_begin_18 rfl ?_
  refine ga_get kf_X8_15 (shS hs _) rfl dX8_begin_19 ?_
  refine ga_iconst ((-1)) dX8_begin_22 (by decide) ?_
  refine ga_S2 km_X8_31 kv_J7_fill_53178 (c_J7_fill_53178 (shS2 hs) (by decide)) (gt_rc0 (by decide)) (Nat.le_of_ble_eq_true rfl) dX8_begin_23 ?_
  refine ga_aload_n 0 dX8_begin_26 rfl ?_
  refine ga_get kf_X8_18 (shS hs _) rfl dX8_begin_27 ?_
  refine ga_iconst (nI 0) dX8_begin_30 (by decide) ?_
  refine ga_S2 km_X8_31 kv_J7_fill_53178 (c_J7_fill_53178 (shS3 hs) (by decide)) (gt_rc0 (by decide)) (Nat.le_of_ble_eq_true rfl) dX8_begin_31 ?_
  refine ga_iconst (nI 0) dX8_begin_34 (by decide) ?_
  refine gs_istore_n [(0, _), (1, _), (2, _)] dX8_begin_35 (by decide) rfl rfl ?_
  have loop : ∀ k t, t + k = K 0 3 → ∀ w1 : gt_W, gx_Co w1 c K → gx_Fr w w1 s (s + 5) → (w1 s 0 = nI 0 ∧ w1 s 1 = nI 0 ∧ (∀ j, j < K 0 1 → w1 (s + 1) j = nI 0) ∧ (∀ j, j < K 0 2 → w1 (s + 2) j = -1) ∧ (∀ j, j < K 0 2 → w1 (s + 3) j = nI 0) ∧ ∀ j, j < t → w1 (s + 4) j = nI (K 6 j)) → gt_A l G RX8 "begin" cX8_begin 3 none (gt_rm 2 0 0) (gt_ZD G n (fun r w' => r = none ∧ gx_Fr w w' s (s + 5) ∧ gx_St w' s K (gx_begin K) (nI 0))) (n, 0, 0) 36 [(0, .ref s), (1, .ref c), (2, .int (nI t))] [] (gt_enc w1) := by
    intro k
    induction k with
    | zero =>
      intro t ht w1 hK hF h6
      have et : t = K 0 3 := by omega
      refine ga_iload_n 2 dX8_begin_36 rfl ?_
      refine ga_aload_n 1 dX8_begin_37 rfl ?_
      refine ga_get kf_X8_37 (shC hc _) (gv hK.1.2.2.2) dX8_begin_38 ?_
      refine ga_icmp_ge 62 dX8_begin_41 (by decide) (fun c_41 => ?_) (fun c_41 => absurd (nI_le (by omega) (by have := kw.2.2.2.1; omega)) c_41)
      exact gd_vret dX8_begin_62 ⟨rfl, hF, h6.1, h6.2.1, h6.2.2.1, fun j hj => by rw [h6.2.2.2.1 j hj]; rfl, h6.2.2.2.2.1, fun j hj => h6.2.2.2.2.2 j (by omega)⟩
    | succ k ih =>
      intro t ht w1 hK hF h6
      refine ga_iload_n 2 dX8_begin_36 rfl ?_
      refine ga_aload_n 1 dX8_begin_37 rfl ?_
      refine ga_get kf_X8_37 (shC hc _) (gv hK.1.2.2.2) dX8_begin_38 ?_
      refine ga_icmp_ge 62 dX8_begin_41 (by decide) (fun c_41 => absurd c_41 (nI_ge (by omega) (by have := kw.2.2.2.1; omega))) (fun c_41 => ?_)
      refine ga_aload_n 0 dX8_begin_44 rfl ?_
      refine ga_get kf_X8_21 (shS hs _) rfl dX8_begin_45 ?_
      refine ga_iload_n 2 dX8_begin_48 rfl ?_
      refine ga_aload_n 1 dX8_begin_49 rfl ?_
      refine ga_get kf_X8_42 (shC hc _) rfl dX8_begin_50 ?_
      refine ga_iload_n 2 dX8_begin_53 rfl ?_
      refine gl_C6 hc hK kw (by omega) dX8_begin_54 ?_
      refine ge_iast (shS4 hs) (gt_ixn (by have := kw.2.2.2.1; omega)) dX8_begin_55 ?_
      refine gs_iincN 2 1 [(0, _), (1, _), (2, _)] dX8_begin_56 rfl (by decide) (by decide) rfl rfl ?_
      refine ga_goto 36 dX8_begin_59 (by decide) ?_
      refine ih (t + 1) (by omega) _ (gx_Co_fr hc hs (gx_Fr_wr gx_Fr_rf (by omega) (by omega)) hK) (gx_Fr_wr hF (by omega) (by omega)) ⟨by rw [gt_wr_ne _ _ (by omega)]; exact h6.1, by rw [gt_wr_ne _ _ (by omega)]; exact h6.2.1, fun j hj => by rw [gt_wr_ne _ _ (by omega)]; exact h6.2.2.1 j hj, fun j hj => by rw [gt_wr_ne _ _ (by omega)]; exact h6.2.2.2.1 j hj, fun j hj => by rw [gt_wr_ne _ _ (by omega)]; exact h6.2.2.2.2.1 j hj, fun j hj => ?_⟩
      rw [gt_wr_eq]
      by_cases e : j = t
      · subst e; rw [upd_eq]
      · rw [upd_ne _ _ e]; exact h6.2.2.2.2.2 j (by omega)
  have k1 := kw.2.1
  have k2 := kw.2.2.1
  refine loop (K 0 3) 0 (by omega) _ (gx_Co_fr hc hs ?_ hK) ?_ ⟨?_, ?_, fun j hj => ?_, fun j hj => ?_, fun j hj => ?_, fun j hj => by omega⟩
  · repeat (first | exact gx_Fr_rf | refine gx_Fr_wr ?_ (by omega) (by omega))
  · repeat (first | exact gx_Fr_rf | refine gx_Fr_wr ?_ (by omega) (by omega))
  · rw [gt_wr_ne _ _ (by omega), gt_wr_ne _ _ (by omega), gt_wr_ne _ _ (by omega), gt_wr_eq, upd_ne _ _ (by decide), gt_wr_eq, upd_eq]
  · rw [gt_wr_ne _ _ (by omega), gt_wr_ne _ _ (by omega), gt_wr_ne _ _ (by omega), gt_wr_eq, upd_eq]
  · rw [gt_wr_ne _ _ (by omega), gt_wr_ne _ _ (by omega), gt_wr_eq]; exact if_pos (by omega)
  · rw [gt_wr_ne _ _ (by omega), gt_wr_eq]; exact if_pos (by omega)
  · rw [gt_wr_eq]; exact if_pos (by omega)
