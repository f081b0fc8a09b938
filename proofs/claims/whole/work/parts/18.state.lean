set_option maxRecDepth 100000 in
set_option maxHeartbeats 4000000 in
theorem c_X0_hasCell {l : Launch} {G : gt_G} {n : Nat} {w : gt_W} {c : Nat} (hc : gt_isC c) {N : Int32} (hN : w c 0 = N) (x : Int32) : gt_C l G yX0_hasCell cX0_hasCell 2 (some .boolean) 1 0 0 n [.ref c, .int x] (gt_enc w) (some (.int (gx_in x N))) (gt_enc (w)) := by
  refine gt_C_of (own := RX0) (nm := "hasCell") rfl rfl (by decide +kernel) (Nat.le_of_ble_eq_true rfl) ?_
  show gt_A _ _ _ _ _ _ _ _ _ _ _ [(0, .ref c), (1, .int x)] _ _
  refine ga_iload_n 1 dX0_hasCell_0 rfl ?_
  refine ga_if_lt 16 dX0_hasCell_1 (by decide) (fun c_1 => ?_) (fun c_1 => ?_)
  · refine ga_iconst (nI 0) dX0_hasCell_16 (by decide) ?_
    exact ga_zret dX0_hasCell_17 (by decide) (by first | rw [gx_in_t c_1 c_9] | rw [gx_in_f1 c_1] | rw [gx_in_f2 c_9]) rfl
  · refine ga_iload_n 1 dX0_hasCell_4 rfl ?_
    refine ga_aload_n 0 dX0_hasCell_5 rfl ?_
    refine ga_get kf_X0_33 (shC hc _) (gv hN) dX0_hasCell_6 ?_
    refine ga_icmp_ge 16 dX0_hasCell_9 (by decide) (fun c_9 => ?_) (fun c_9 => ?_)
    · refine ga_iconst (nI 0) dX0_hasCell_16 (by decide) ?_
      exact ga_zret dX0_hasCell_17 (by decide) (by first | rw [gx_in_t c_1 c_9] | rw [gx_in_f1 c_1] | rw [gx_in_f2 c_9]) rfl
    · refine ga_iconst (nI 1) dX0_hasCell_12 (by decide) ?_
      refine ga_goto 17 dX0_hasCell_13 (by decide) ?_
      exact ga_zret dX0_hasCell_17 (by decide) (by first | rw [gx_in_t c_1 c_9] | rw [gx_in_f1 c_1] | rw [gx_in_f2 c_9]) rfl
set_option maxRecDepth 100000 in
set_option maxHeartbeats 4000000 in
theorem c_X0_hasTower {l : Launch} {G : gt_G} {n : Nat} {w : gt_W} {c : Nat} (hc : gt_isC c) {N : Int32} (hN : w c 1 = N) (x : Int32) : gt_C l G yX0_hasTower cX0_hasTower 2 (some .boolean) 1 0 0 n [.ref c, .int x] (gt_enc w) (some (.int (gx_in x N))) (gt_enc (w)) := by
  refine gt_C_of (own := RX0) (nm := "hasTower") rfl rfl (by decide +kernel) (Nat.le_of_ble_eq_true rfl) ?_
  show gt_A _ _ _ _ _ _ _ _ _ _ _ [(0, .ref c), (1, .int x)] _ _
  refine ga_iload_n 1 dX0_hasTower_0 rfl ?_
  refine ga_if_lt 16 dX0_hasTower_1 (by decide) (fun c_1 => ?_) (fun c_1 => ?_)
  · refine ga_iconst (nI 0) dX0_hasTower_16 (by decide) ?_
    exact ga_zret dX0_hasTower_17 (by decide) (by first | rw [gx_in_t c_1 c_9] | rw [gx_in_f1 c_1] | rw [gx_in_f2 c_9]) rfl
  · refine ga_iload_n 1 dX0_hasTower_4 rfl ?_
    refine ga_aload_n 0 dX0_hasTower_5 rfl ?_
    refine ga_get kf_X0_37 (shC hc _) (gv hN) dX0_hasTower_6 ?_
    refine ga_icmp_ge 16 dX0_hasTower_9 (by decide) (fun c_9 => ?_) (fun c_9 => ?_)
    · refine ga_iconst (nI 0) dX0_hasTower_16 (by decide) ?_
      exact ga_zret dX0_hasTower_17 (by decide) (by first | rw [gx_in_t c_1 c_9] | rw [gx_in_f1 c_1] | rw [gx_in_f2 c_9]) rfl
    · refine ga_iconst (nI 1) dX0_hasTower_12 (by decide) ?_
      refine ga_goto 17 dX0_hasTower_13 (by decide) ?_
      exact ga_zret dX0_hasTower_17 (by decide) (by first | rw [gx_in_t c_1 c_9] | rw [gx_in_f1 c_1] | rw [gx_in_f2 c_9]) rfl
set_option maxRecDepth 100000 in
set_option maxHeartbeats 4000000 in
theorem c_X0_hasPlayer {l : Launch} {G : gt_G} {n : Nat} {w : gt_W} {c : Nat} (hc : gt_isC c) {N : Int32} (hN : w c 2 = N) (x : Int32) : gt_C l G yX0_hasPlayer cX0_hasPlayer 2 (some .boolean) 1 0 0 n [.ref c, .int x] (gt_enc w) (some (.int (gx_in x N))) (gt_enc (w)) := by
  refine gt_C_of (own := RX0) (nm := "hasPlayer") rfl rfl (by decide +kernel) (Nat.le_of_ble_eq_true rfl) ?_
  show gt_A _ _ _ _ _ _ _ _ _ _ _ [(0, .ref c), (1, .int x)] _ _
  refine ga_iload_n 1 dX0_hasPlayer_0 rfl ?_
  refine ga_if_lt 16 dX0_hasPlayer_1 (by decide) (fun c_1 => ?_) (fun c_1 => ?_)
  · refine ga_iconst (nI 0) dX0_hasPlayer_16 (by decide) ?_
    exact ga_zret dX0_hasPlayer_17 (by decide) (by first | rw [gx_in_t c_1 c_9] | rw [gx_in_f1 c_1] | rw [gx_in_f2 c_9]) rfl
  · refine ga_iload_n 1 dX0_hasPlayer_4 rfl ?_
    refine ga_aload_n 0 dX0_hasPlayer_5 rfl ?_
    refine ga_get kf_X0_40 (shC hc _) (gv hN) dX0_hasPlayer_6 ?_
    refine ga_icmp_ge 16 dX0_hasPlayer_9 (by decide) (fun c_9 => ?_) (fun c_9 => ?_)
    · refine ga_iconst (nI 0) dX0_hasPlayer_16 (by decide) ?_
      exact ga_zret dX0_hasPlayer_17 (by decide) (by first | rw [gx_in_t c_1 c_9] | rw [gx_in_f1 c_1] | rw [gx_in_f2 c_9]) rfl
    · refine ga_iconst (nI 1) dX0_hasPlayer_12 (by decide) ?_
      refine ga_goto 17 dX0_hasPlayer_13 (by decide) ?_
      exact ga_zret dX0_hasPlayer_17 (by decide) (by first | rw [gx_in_t c_1 c_9] | rw [gx_in_f1 c_1] | rw [gx_in_f2 c_9]) rfl
set_option maxRecDepth 100000 in
set_option maxHeartbeats 4000000 in
theorem c_X0_hasBoat {l : Launch} {G : gt_G} {n : Nat} {w : gt_W} {c : Nat} (hc : gt_isC c) {N : Int32} (hN : w c 3 = N) (x : Int32) : gt_C l G yX0_hasBoat cX0_hasBoat 2 (some .boolean) 1 0 0 n [.ref c, .int x] (gt_enc w) (some (.int (gx_in x N))) (gt_enc (w)) := by
  refine gt_C_of (own := RX0) (nm := "hasBoat") rfl rfl (by decide +kernel) (Nat.le_of_ble_eq_true rfl) ?_
  show gt_A _ _ _ _ _ _ _ _ _ _ _ [(0, .ref c), (1, .int x)] _ _
  refine ga_iload_n 1 dX0_hasBoat_0 rfl ?_
  refine ga_if_lt 16 dX0_hasBoat_1 (by decide) (fun c_1 => ?_) (fun c_1 => ?_)
  · refine ga_iconst (nI 0) dX0_hasBoat_16 (by decide) ?_
    exact ga_zret dX0_hasBoat_17 (by decide) (by first | rw [gx_in_t c_1 c_9] | rw [gx_in_f1 c_1] | rw [gx_in_f2 c_9]) rfl
  · refine ga_iload_n 1 dX0_hasBoat_4 rfl ?_
    refine ga_aload_n 0 dX0_hasBoat_5 rfl ?_
    refine ga_get kf_X0_43 (shC hc _) (gv hN) dX0_hasBoat_6 ?_
    refine ga_icmp_ge 16 dX0_hasBoat_9 (by decide) (fun c_9 => ?_) (fun c_9 => ?_)
    · refine ga_iconst (nI 0) dX0_hasBoat_16 (by decide) ?_
      exact ga_zret dX0_hasBoat_17 (by decide) (by first | rw [gx_in_t c_1 c_9] | rw [gx_in_f1 c_1] | rw [gx_in_f2 c_9]) rfl
    · refine ga_iconst (nI 1) dX0_hasBoat_12 (by decide) ?_
      refine ga_goto 17 dX0_hasBoat_13 (by decide) ?_
      exact ga_zret dX0_hasBoat_17 (by decide) (by first | rw [gx_in_t c_1 c_9] | rw [gx_in_f1 c_1] | rw [gx_in_f2 c_9]) rfl
set_option maxRecDepth 100000 in
set_option maxHeartbeats 4000000 in
theorem c_X0_bears {l : Launch} {G : gt_G} {n : Nat} {w : gt_W} {c t wd k : Nat} {K : gx_K} (hc : gt_isC c) (hK : gx_Co w c K) (kw : gx_KW K) (ht : t < K 0 1) (h9 : wd ≤ 99) (hk : k < 11) : gt_C l G yX0_bears cX0_bears 4 (some .int) 1 0 0 n [.ref c, .int (nI t), .int (nI wd), .int (nI k)] (gt_enc w) (some (.int (nI (gx_bears wd (K 3 t) (K 2 t) k)))) (gt_enc (w)) := by
  refine gt_C_of (own := RX0) (nm := "bears") rfl rfl (by decide +kernel) (Nat.le_of_ble_eq_true rfl) ?_
  show gt_A _ _ _ _ _ _ _ _ _ _ _ [(0, .ref c), (1, .int (nI t)), (2, .int (nI wd)), (3, .int (nI k))] _ _
  refine ga_iconst (nI 0) dX0_bears_0 (by decide) ?_
  refine ga_iload_n 2 dX0_bears_1 rfl ?_
  refine ga_aload_n 0 dX0_bears_2 rfl ?_
  refine ga_get kf_X0_18 (shC hc _) rfl dX0_bears_3 ?_
  refine ga_iload_n 1 dX0_bears_6 rfl ?_
  refine gl_C3 hc hK kw ht dX0_bears_7 ?_
  refine ga_iload_n 3 dX0_bears_8 rfl ?_
  refine ga_aload_n 0 dX0_bears_9 rfl ?_
  refine ga_get kf_X0_15 (shC hc _) rfl dX0_bears_10 ?_
  refine ga_iload_n 1 dX0_bears_13 rfl ?_
  refine gl_C2 hc hK kw ht dX0_bears_14 ?_
  refine ga_isub dX0_bears_15 ?_
  refine ga_abs km_X0_46 kmath_abs (gt_room0 (by decide)) (Nat.le_of_ble_eq_true rfl) dX0_bears_16 ?_
  refine ga_imul dX0_bears_19 ?_
  refine ga_isub dX0_bears_20 ?_
  refine ga_max km_X0_52 kmath_max (gt_room0 (by decide)) (Nat.le_of_ble_eq_true rfl) dX0_bears_21 ?_
  exact ga_iret dX0_bears_24 (gv (gx_bearsN h9 (kw.2.2.2.2.2.2.1 t ht).2 (Nat.lt_of_lt_of_le (kw.2.2.2.2.2.1 t ht) kw.1) hk).symm) rfl
