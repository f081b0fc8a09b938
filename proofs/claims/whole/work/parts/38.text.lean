/-- a clause: the reader, the coast -/
def gx_cl (x : Nat → Nat) (L : Nat) (s : gx_T) (K : gx_K) : gx_T := if x s.1 = 116 then gx_tw x L s K else if x s.1 = 112 then gx_pl x L s K else if x s.1 = 98 then gx_bo x L s K else if x s.1 = 99 then gx_fl s 3 s.1 else gx_fl s 1 s.1
def gx_clK (x : Nat → Nat) (L : Nat) (s : gx_T) (K : gx_K) : gx_K := if x s.1 = 116 then gx_twK x L s K else if x s.1 = 112 then gx_plK x L s K else if x s.1 = 98 then gx_boK x L s K else K
/-- how many there may be -/
def gx_KB (K : gx_K) : Prop := (1 ≤ K 0 0 ∧ K 0 0 ≤ 10) ∧ K 0 1 ≤ 6 ∧ K 0 2 ≤ 6 ∧ K 0 3 ≤ 4
theorem gx_clK_B {x : Nat → Nat} {L : Nat} {s : gx_T} {K : gx_K} (h : gx_KB K) : gx_KB (gx_clK x L s K) := by
  obtain ⟨h0, h1, h2, h3⟩ := h
  unfold gx_clK gx_twK gx_plK gx_boK
  split
  · split
    · exact ⟨h0, h1, h2, h3⟩
    · refine ⟨?_, ?_, ?_, ?_⟩
      · rw [gx_up_row (by decide), gx_up_row (by decide), gx_up_col (by decide)]; exact h0
      · rw [gx_up_row (by decide), gx_up_row (by decide), gx_up_eq]; omega
      · rw [gx_up_row (by decide), gx_up_row (by decide), gx_up_col (by decide)]; exact h2
      · rw [gx_up_row (by decide), gx_up_row (by decide), gx_up_col (by decide)]; exact h3
  · split
    · split
      · exact ⟨h0, h1, h2, h3⟩
      · refine ⟨?_, ?_, ?_, ?_⟩
        · rw [gx_up_row (by decide), gx_up_col (by decide)]; exact h0
        · rw [gx_up_row (by decide), gx_up_col (by decide)]; exact h1
        · rw [gx_up_row (by decide), gx_up_eq]; omega
        · rw [gx_up_row (by decide), gx_up_col (by decide)]; exact h3
    · split
      · split
        · exact ⟨h0, h1, h2, h3⟩
        · refine ⟨?_, ?_, ?_, ?_⟩
          · rw [gx_up_row (by decide), gx_up_row (by decide), gx_up_row (by decide), gx_up_col (by decide)]; exact h0
          · rw [gx_up_row (by decide), gx_up_row (by decide), gx_up_row (by decide), gx_up_col (by decide)]; exact h1
          · rw [gx_up_row (by decide), gx_up_row (by decide), gx_up_row (by decide), gx_up_col (by decide)]; exact h2
          · rw [gx_up_row (by decide), gx_up_row (by decide), gx_up_row (by decide), gx_up_eq]; omega
      · exact ⟨h0, h1, h2, h3⟩
theorem gx_RW_cl {x : Nat → Nat} {L : Nat} {s : gx_T} {K : gx_K} (h : gx_RW x L s) : gx_RW x L (gx_cl x L s K) := by
  have h1 : s.1 ≤ 240 := Nat.le_trans h.2.1 h.1
  unfold gx_cl gx_tw gx_pl gx_bo
  split
  · split
    · exact gx_RW_fl h (by decide) h1
    · exact gx_RW_sgn (gx_RW_num (gx_RW_num (gx_RW_sgn h _) _ _) _ _) _
  · split
    · split
      · exact gx_RW_fl h (by decide) h1
      · exact gx_RW_sgn (gx_RW_num (gx_RW_sgn h _) _ _) _
    · split
      · split
        · exact gx_RW_fl h (by decide) h1
        · exact gx_RW_sgn (gx_RW_num (gx_RW_num (gx_RW_num (gx_RW_sgn h _) _ _) _ _) _ _) _
      · split
        · exact gx_RW_fl h (by decide) h1
        · exact gx_RW_fl h (by decide) h1
/-- the clauses behind the cells -/
def gx_rl (x : Nat → Nat) (L : Nat) : Nat → gx_T → gx_K → gx_T × gx_K
  | 0, s, K => (s, K)
  | f + 1, s, K => if s.2.1 = 0 then (if gx_skip x L s.1 < L then gx_rl x L f (gx_cl x L (gx_skip x L s.1, s.2) K) (gx_clK x L (gx_skip x L s.1, s.2) K) else ((gx_skip x L s.1, s.2), K)) else (s, K)
/-- the whole text -/
def gx_ri (x : Nat → Nat) (L : Nat) : gx_T × gx_K := if gx_skip x L 0 < L then gx_rl x L 240 (gx_ce x L (gx_skip x L 0, 0, 0) (fun _ _ => 0)) (gx_ce0 x L (gx_skip x L 0, 0, 0) (fun _ _ => 0)).2 else ((gx_skip x L 0, 0, 0), fun _ _ => 0)
set_option maxRecDepth 100000 in
set_option maxHeartbeats 4000000 in
theorem c_X6_readClause {l : Launch} {G : gt_G} {n : Nat} {w : gt_W} {c : Nat} {K : gx_K} {x : Nat → Nat} {L : Nat} {s : gx_T} (hc : gt_isC c) (hK : gx_Co w c K) (hR : gx_Rd w x L s) (rw9 : gx_RW x L s) (kb : gx_KB K) (hlt : s.1 < L) : gt_D l G yX6_readClause cX6_readClause 2 none 5 n [.ref 2, .ref c] w (fun r w' => r = none ∧ (∀ a, a ≠ 2 → (a < c ∨ c + 8 ≤ a) → w' a = w a) ∧ gx_Rd w' x L (gx_cl x L s K) ∧ gx_Co w' c (gx_clK x L s K)) := by
  have hx9 := rw9.2.2.2.2 s.1 hlt
  refine gt_D_of (own := RX6) (nm := "readClause") rfl rfl (by decide +kernel) (Nat.le_of_ble_eq_true rfl) ?_
  show gt_A _ _ _ _ _ _ _ _ _ _ _ [(0, .ref 2), (1, .ref c)] _ _
  refine ga_aload_n 0 dX6_readClause_0 rfl ?_
  refine ga_get kf_X6_9 (sh2 _) rfl dX6_readClause_1 ?_
  refine ga_aload_n 0 dX6_readClause_4 rfl ?_
  refine ga_get kf_X6_23 (sh2 _) (gv hR.1.2.1) dX6_readClause_5 ?_
  refine ge_ialdE (sh3) (gt_ixn (by have := rw9.1; omega)) (v := nI (x s.1)) (hR.2 _ hlt) dX6_readClause_8 ?_
  rcases (show x s.1 = 98 ∨ x s.1 = 99 ∨ x s.1 = 112 ∨ x s.1 = 116 ∨ (¬ x s.1 = 98 ∧ ¬ x s.1 = 99 ∧ ¬ x s.1 = 112 ∧ ¬ x s.1 = 116) by omega) with sw_9 | sw_9 | sw_9 | sw_9 | sw_9
  · refine ga_top (nI 98) (by rw [sw_9]) ?_
    refine ga_lookup 68 dX6_readClause_9 (by decide) (off := 59) (by decide) (by decide) ?_
    refine ga_aload_n 0 dX6_readClause_68 rfl ?_
    refine ga_aload_n 1 dX6_readClause_69 rfl ?_
    refine gd_V1 km_X6_73 kv_X6_readBoat (c_X6_readBoat hc hK hR rw9 kb.1 kb.2.2.2) (sh2 _) rfl rfl (gt_rc0 (by decide)) (Nat.le_of_ble_eq_true rfl) dX6_readClause_70 (fun r_70 w_70 q_70 => ?_)
    obtain ⟨rfl, o70, hR70, hK70⟩ := q_70
    refine ga_goto 97 dX6_readClause_73 (by decide) ?_
    refine gd_vret dX6_readClause_97 ?_
    first
    | exact ⟨rfl, o54, by unfold gx_cl; rw [if_pos sw_9]; exact hR54, by unfold gx_clK; rw [if_pos sw_9]; exact hK54⟩
    | exact ⟨rfl, o62, by unfold gx_cl; rw [if_neg (by omega), if_pos sw_9]; exact hR62, by unfold gx_clK; rw [if_neg (by omega), if_pos sw_9]; exact hK62⟩
    | exact ⟨rfl, o70, by unfold gx_cl; rw [if_neg (by omega), if_neg (by omega), if_pos sw_9]; exact hR70, by unfold gx_clK; rw [if_neg (by omega), if_neg (by omega), if_pos sw_9]; exact hK70⟩
    | exact ⟨rfl, fun a h1 h2 => o82 a h1, by unfold gx_cl; rw [if_neg (by omega), if_neg (by omega), if_neg (by omega), if_pos sw_9]; exact hR82, by unfold gx_clK; rw [if_neg (by omega), if_neg (by omega), if_neg (by omega)]; exact gx_Co_eq9 hc (fun a ha => o82 a (by omega)) hK⟩
    | exact ⟨rfl, fun a h1 h2 => o94 a h1, by unfold gx_cl; rw [if_neg (by omega), if_neg (by omega), if_neg (by omega), if_neg (by omega)]; exact hR94, by unfold gx_clK; rw [if_neg (by omega), if_neg (by omega), if_neg (by omega)]; exact gx_Co_eq9 hc (fun a ha => o94 a (by omega)) hK⟩
  · refine ga_top (nI 99) (by rw [sw_9]) ?_
    refine ga_lookup 76 dX6_readClause_9 (by decide) (off := 67) (by decide) (by decide) ?_
    refine ga_aload_n 0 dX6_readClause_76 rfl ?_
    refine ga_iconst (nI 3) dX6_readClause_77 (by decide) ?_
    refine ga_aload_n 0 dX6_readClause_78 rfl ?_
    refine ga_get kf_X6_23 (sh2 _) (gv hR.1.2.1) dX6_readClause_79 ?_
    refine gd_V2 km_X6_63 kv_X6_fail (c_X6_fail hR rw9) (sh2 _) rfl rfl (gt_rc0 (by decide)) (Nat.le_of_ble_eq_true rfl) dX6_readClause_82 (fun r_82 w_82 q_82 => ?_)
    obtain ⟨rfl, o82, hR82⟩ := q_82
    refine ga_goto 97 dX6_readClause_85 (by decide) ?_
    refine gd_vret dX6_readClause_97 ?_
    first
    | exact ⟨rfl, o54, by unfold gx_cl; rw [if_pos sw_9]; exact hR54, by unfold gx_clK; rw [if_pos sw_9]; exact hK54⟩
    | exact ⟨rfl, o62, by unfold gx_cl; rw [if_neg (by omega), if_pos sw_9]; exact hR62, by unfold gx_clK; rw [if_neg (by omega), if_pos sw_9]; exact hK62⟩
    | exact ⟨rfl, o70, by unfold gx_cl; rw [if_neg (by omega), if_neg (by omega), if_pos sw_9]; exact hR70, by unfold gx_clK; rw [if_neg (by omega), if_neg (by omega), if_pos sw_9]; exact hK70⟩
    | exact ⟨rfl, fun a h1 h2 => o82 a h1, by unfold gx_cl; rw [if_neg (by omega), if_neg (by omega), if_neg (by omega), if_pos sw_9]; exact hR82, by unfold gx_clK; rw [if_neg (by omega), if_neg (by omega), if_neg (by omega)]; exact gx_Co_eq9 hc (fun a ha => o82 a (by omega)) hK⟩
    | exact ⟨rfl, fun a h1 h2 => o94 a h1, by unfold gx_cl; rw [if_neg (by omega), if_neg (by omega), if_neg (by omega), if_neg (by omega)]; exact hR94, by unfold gx_clK; rw [if_neg (by omega), if_neg (by omega), if_neg (by omega)]; exact gx_Co_eq9 hc (fun a ha => o94 a (by omega)) hK⟩
  · refine ga_top (nI 112) (by rw [sw_9]) ?_
    refine ga_lookup 60 dX6_readClause_9 (by decide) (off := 51) (by decide) (by decide) ?_
    refine ga_aload_n 0 dX6_readClause_60 rfl ?_
    refine ga_aload_n 1 dX6_readClause_61 rfl ?_
    refine gd_V1 km_X6_70 kv_X6_readPlayer (c_X6_readPlayer hc hK hR rw9 kb.1 kb.2.2.1) (sh2 _) rfl rfl (gt_rc0 (by decide)) (Nat.le_of_ble_eq_true rfl) dX6_readClause_62 (fun r_62 w_62 q_62 => ?_)
    obtain ⟨rfl, o62, hR62, hK62⟩ := q_62
    refine ga_goto 97 dX6_readClause_65 (by decide) ?_
    refine gd_vret dX6_readClause_97 ?_
    first
    | exact ⟨rfl, o54, by unfold gx_cl; rw [if_pos sw_9]; exact hR54, by unfold gx_clK; rw [if_pos sw_9]; exact hK54⟩
    | exact ⟨rfl, o62, by unfold gx_cl; rw [if_neg (by omega), if_pos sw_9]; exact hR62, by unfold gx_clK; rw [if_neg (by omega), if_pos sw_9]; exact hK62⟩
    | exact ⟨rfl, o70, by unfold gx_cl; rw [if_neg (by omega), if_neg (by omega), if_pos sw_9]; exact hR70, by unfold gx_clK; rw [if_neg (by omega), if_neg (by omega), if_pos sw_9]; exact hK70⟩
    | exact ⟨rfl, fun a h1 h2 => o82 a h1, by unfold gx_cl; rw [if_neg (by omega), if_neg (by omega), if_neg (by omega), if_pos sw_9]; exact hR82, by unfold gx_clK; rw [if_neg (by omega), if_neg (by omega), if_neg (by omega)]; exact gx_Co_eq9 hc (fun a ha => o82 a (by omega)) hK⟩
    | exact ⟨rfl, fun a h1 h2 => o94 a h1, by unfold gx_cl; rw [if_neg (by omega), if_neg (by omega), if_neg (by omega), if_neg (by omega)]; exact hR94, by unfold gx_clK; rw [if_neg (by omega), if_neg (by omega), if_neg (by omega)]; exact gx_Co_eq9 hc (fun a ha => o94 a (by omega)) hK⟩
  · refine ga_top (nI 116) (by rw [sw_9]) ?_
    refine ga_lookup 52 dX6_readClause_9 (by decide) (off := 43) (by decide) (by decide) ?_
    refine ga_aload_n 0 dX6_readClause_52 rfl ?_
    refine ga_aload_n 1 dX6_readClause_53 rfl ?_
    refine gd_V1 km_X6_67 kv_X6_readTower (c_X6_readTower hc hK hR rw9 kb.1 kb.2.1) (sh2 _) rfl rfl (gt_rc0 (by decide)) (Nat.le_of_ble_eq_true rfl) dX6_readClause_54 (fun r_54 w_54 q_54 => ?_)
    obtain ⟨rfl, o54, hR54, hK54⟩ := q_54
    refine ga_goto 97 dX6_readClause_57 (by decide) ?_
    refine gd_vret dX6_readClause_97 ?_
    first
    | exact ⟨rfl, o54, by unfold gx_cl; rw [if_pos sw_9]; exact hR54, by unfold gx_clK; rw [if_pos sw_9]; exact hK54⟩
    | exact ⟨rfl, o62, by unfold gx_cl; rw [if_neg (by omega), if_pos sw_9]; exact hR62, by unfold gx_clK; rw [if_neg (by omega), if_pos sw_9]; exact hK62⟩
    | exact ⟨rfl, o70, by unfold gx_cl; rw [if_neg (by omega), if_neg (by omega), if_pos sw_9]; exact hR70, by unfold gx_clK; rw [if_neg (by omega), if_neg (by omega), if_pos sw_9]; exact hK70⟩
    | exact ⟨rfl, fun a h1 h2 => o82 a h1, by unfold gx_cl; rw [if_neg (by omega), if_neg (by omega), if_neg (by omega), if_pos sw_9]; exact hR82, by unfold gx_clK; rw [if_neg (by omega), if_neg (by omega), if_neg (by omega)]; exact gx_Co_eq9 hc (fun a ha => o82 a (by omega)) hK⟩
    | exact ⟨rfl, fun a h1 h2 => o94 a h1, by unfold gx_cl; rw [if_neg (by omega), if_neg (by omega), if_neg (by omega), if_neg (by omega)]; exact hR94, by unfold gx_clK; rw [if_neg (by omega), if_neg (by omega), if_neg (by omega)]; exact gx_Co_eq9 hc (fun a ha => o94 a (by omega)) hK⟩
  · refine ga_lookup 88 dX6_readClause_9 (by decide) (off := 79) (by rw [nI_toInt (by omega)]; simp only [Op.lookupswitch.offset]; rw [if_neg (by omega), if_neg (by omega), if_neg (by omega), if_neg (by omega)]) (by decide) ?_
    refine ga_aload_n 0 dX6_readClause_88 rfl ?_
    refine ga_iconst (nI 1) dX6_readClause_89 (by decide) ?_
    refine ga_aload_n 0 dX6_readClause_90 rfl ?_
    refine ga_get kf_X6_23 (sh2 _) (gv hR.1.2.1) dX6_readClause_91 ?_
    refine gd_V2 km_X6_63 kv_X6_fail (c_X6_fail hR rw9) (sh2 _) rfl rfl (gt_rc0 (by decide)) (Nat.le_of_ble_eq_true rfl) dX6_readClause_94 (fun r_94 w_94 q_94 => ?_)
    obtain ⟨rfl, o94, hR94⟩ := q_94
    refine gd_vret dX6_readClause_97 ?_
    first
    | exact ⟨rfl, o54, by unfold gx_cl; rw [if_pos sw_9]; exact hR54, by unfold gx_clK; rw [if_pos sw_9]; exact hK54⟩
    | exact ⟨rfl, o62, by unfold gx_cl; rw [if_neg (by omega), if_pos sw_9]; exact hR62, by unfold gx_clK; rw [if_neg (by omega), if_pos sw_9]; exact hK62⟩
    | exact ⟨rfl, o70, by unfold gx_cl; rw [if_neg (by omega), if_neg (by omega), if_pos sw_9]; exact hR70, by unfold gx_clK; rw [if_neg (by omega), if_neg (by omega), if_pos sw_9]; exact hK70⟩
    | exact ⟨rfl, fun a h1 h2 => o82 a h1, by unfold gx_cl; rw [if_neg (by omega), if_neg (by omega), if_neg (by omega), if_pos sw_9]; exact hR82, by unfold gx_clK; rw [if_neg (by omega), if_neg (by omega), if_neg (by omega)]; exact gx_Co_eq9 hc (fun a ha => o82 a (by omega)) hK⟩
    | exact ⟨rfl, fun a h1 h2 => o94 a h1, by unfold gx_cl; rw [if_neg (by omega), if_neg (by omega), if_neg (by omega), if_neg (by omega)]; exact hR94, by unfold gx_clK; rw [if_neg (by omega), if_neg (by omega), if_neg (by omega)]; exact gx_Co_eq9 hc (fun a ha => o94 a (by omega)) hK⟩
theorem gx_cs_cnt {x : Nat → Nat} {L : Nat} : ∀ k s (K : gx_K) i, ¬ i = 0 → (gx_cs x L k s K).2 0 i = K 0 i
  | 0, s, K, i, h => rfl
  | k + 1, s, K, i, h => by
    unfold gx_cs
    split
    · rw [gx_cs_cnt k _ _ i h, gx_up_col h, gx_up_row (by decide)]
    · rfl
theorem gx_KB_ce {x : Nat → Nat} {L : Nat} {s : gx_T} (h : gx_RW x L s) : gx_KB (gx_ce0 x L s (fun _ _ => 0)).2 := by
  have h1 := gx_cs_b (x := x) (L := L) 9 (gx_num x L (gx_sgn x L s 99) 0 60) (gx_up (gx_up (fun _ _ => 0) 1 0 (gx_nv x L (gx_sgn x L s 99))) 0 0 1) (gx_RW_num (gx_RW_sgn h 99) 0 60) (by decide) (by rw [gx_up_eq])
  refine ⟨h1.2, ?_, ?_, ?_⟩
  · show (gx_cs x L 9 _ _).2 0 1 ≤ 6; rw [gx_cs_cnt 9 _ _ 1 (by decide), gx_up_col (by decide), gx_up_row (by decide)]; exact Nat.zero_le _
  · show (gx_cs x L 9 _ _).2 0 2 ≤ 6; rw [gx_cs_cnt 9 _ _ 2 (by decide), gx_up_col (by decide), gx_up_row (by decide)]; exact Nat.zero_le _
  · show (gx_cs x L 9 _ _).2 0 3 ≤ 4; rw [gx_cs_cnt 9 _ _ 3 (by decide), gx_up_col (by decide), gx_up_row (by decide)]; exact Nat.zero_le _
theorem gx_RW_ce {x : Nat → Nat} {L : Nat} {s : gx_T} (h : gx_RW x L s) : gx_RW x L (gx_ce x L s (fun _ _ => 0)) := by
  have h1 := gx_cs_b (x := x) (L := L) 9 (gx_num x L (gx_sgn x L s 99) 0 60) (gx_up (gx_up (fun _ _ => 0) 1 0 (gx_nv x L (gx_sgn x L s 99))) 0 0 1) (gx_RW_num (gx_RW_sgn h 99) 0 60) (by decide) (by rw [gx_up_eq])
  unfold gx_ce
  refine gx_RW_sgn ?_ _
  split
  · exact gx_RW_fl h1.1 (by decide) (Nat.le_trans h1.1.2.1 h1.1.1)
  · exact h1.1
set_option maxRecDepth 100000 in
set_option maxHeartbeats 4000000 in
theorem c_X6_readInto {l : Launch} {G : gt_G} {n : Nat} {w : gt_W} {c : Nat} {x : Nat → Nat} {L : Nat} (hc : gt_isC c) (hL : w 2 1 = nI L) (hL4 : L ≤ 240) (hx : ∀ j, j < L → w 3 j = nI (x j) ∧ x j ≤ 255) : gt_D l G yX6_readInto cX6_readInto 3 (some .int) 6 n [.ref 2, .ref c] w (fun r w' => r = some (.int (nI (gx_ri x L).1.2.1)) ∧ (∀ a, a ≠ 2 → (a < c ∨ c + 8 ≤ a) → w' a = w a) ∧ w' 2 4 = gx_seat (gx_ri x L).1.2.2 ∧ w' 2 1 = nI 0 ∧ gx_Co w' c (gx_ri x L).2) := by
  have hl := gt_isC_lt hc
  refine gt_D_of (own := RX6) (nm := "readInto") rfl rfl (by decide +kernel) (Nat.le_of_ble_eq_true rfl) ?_
  show gt_A _ _ _ _ _ _ _ _ _ _ _ [(0, .ref 2), (1, .ref c)] _ _
  refine ga_aload_n 0 dX6_readInto_0 rfl ?_
  refine ga_iconst (nI 0) dX6_readInto_1 (by decide) ?_
  refine gw_put 2 kp_X6_23 (sh2 _) (sh2 _) rfl rfl (Nat.le_of_ble_eq_true rfl) dX6_readInto_2 (fun w_2 o_2 e_2 => ?_)
  refine ga_aload_n 0 dX6_readInto_5 rfl ?_
  refine ga_iconst (nI 0) dX6_readInto_6 (by decide) ?_
  refine gw_put 3 kp_X6_26 (sh2 _) (sh2 _) rfl rfl (Nat.le_of_ble_eq_true rfl) dX6_readInto_7 (fun w_7 o_7 e_7 => ?_)
  refine ga_aload_n 0 dX6_readInto_10 rfl ?_
  refine ga_iconst ((-1)) dX6_readInto_11 (by decide) ?_
  refine gw_put 4 kp_X6_15 (sh2 _) (sh2 _) rfl rfl (Nat.le_of_ble_eq_true rfl) dX6_readInto_12 (fun w_12 o_12 e_12 => ?_)
  refine ga_aload_n 1 dX6_readInto_15 rfl ?_
  refine gd_V0 km_X6_29 kv_X0_clear (c_X0_clear hc) (shC hc _) rfl rfl (gt_rc0 (by decide)) (Nat.le_of_ble_eq_true rfl) dX6_readInto_16 (fun r_16 w_16 q_16 => ?_)
  obtain ⟨rfl, o16, hK⟩ := q_16
  have hR : gx_Rd w_16 x L (0, 0, 0) := ⟨⟨by rw [o16 2 (by omega), e_12, upd_ne _ _ (by decide), e_7, upd_ne _ _ (by decide), e_2, upd_ne _ _ (by decide)]; exact hL, by rw [o16 2 (by omega), e_12, upd_ne _ _ (by decide), e_7, upd_ne _ _ (by decide), e_2, upd_eq], by rw [o16 2 (by omega), e_12, upd_ne _ _ (by decide), e_7, upd_eq], by rw [o16 2 (by omega), e_12, upd_eq]; rfl⟩, fun j hj => by rw [o16 3 (by omega), o_12 3 (by omega), o_7 3 (by omega), o_2 3 (by omega)]; exact (hx j hj).1⟩
  have rw9 : gx_RW x L (0, 0, 0) := ⟨hL4, Nat.zero_le _, Nat.zero_le _, Nat.zero_le _, fun j hj => (hx j hj).2⟩
  have hF : ∀ a, a ≠ 2 → (a < c ∨ c + 8 ≤ a) → w_16 a = w a := fun a h1 h2 => by rw [o16 a (by omega), o_12 a h1, o_7 a h1, o_2 a h1]
  refine ga_aload_n 0 dX6_readInto_19 rfl ?_
  refine gd_V0 km_X6_34 kv_X6_moreComes (c_X6_moreComes hR rw9) (sh2 _) rfl rfl (gt_rc0 (by decide)) (Nat.le_of_ble_eq_true rfl) dX6_readInto_20 (fun r_20 w_20 q_20 => ?_)
  obtain ⟨rfl, o20, hR⟩ := q_20
  have hRs := gx_RW_sk rw9
  have hK := gx_Co_eq9 hc (fun a ha => o20 a (by omega)) hK
  have hF := fun a h1 h2 => (o20 a h1).trans (hF a h1 h2)
  refine ga_if_eq 65 dX6_readInto_23 (by decide) (fun c_23 => ?_) (fun c_23 => ?_)
  · have hnl0 : ¬ gx_skip x L 0 < L := fun q => absurd c_23 (by rw [if_pos q]; decide)
    obtain ⟨F, hFe⟩ : ∃ F, F = gx_ri x L := ⟨_, rfl⟩
    have hF1 : F = ((gx_skip x L 0, 0, 0), fun _ _ => 0) := hFe.trans (if_neg hnl0)
    have hK : gx_Co w_20 c F.2 := by rw [hF1]; exact hK
    have hR : gx_Rd w_20 x L F.1 := by rw [hF1]; exact hR
    refine ga_aload_n 0 dX6_readInto_65 rfl ?_
    refine ga_iconst (nI 0) dX6_readInto_66 (by decide) ?_
    refine gw_put 1 kp_X6_19 (sh2 _) (sh2 _) rfl rfl (Nat.le_of_ble_eq_true rfl) dX6_readInto_67 (fun w_67 o_67 e_67 => ?_)
    refine ga_aload_n 0 dX6_readInto_70 rfl ?_
    refine ga_get kf_X6_26 (sh2 _) (gvv (nI F.1.2.1) (by rw [e_67, upd_ne _ _ (by decide)]; exact hR.1.2.2.1)) dX6_readInto_71 ?_
    exact gd_iret dX6_readInto_74 ⟨by rw [hFe], fun a h1 h2 => by rw [o_67 a h1]; exact hF a h1 h2, by rw [← hFe, e_67, upd_ne _ _ (by decide)]; exact hR.1.2.2.2, by rw [e_67, upd_eq], by rw [← hFe]; exact gx_Co_eq9 hc (fun a ha => o_67 a (by omega)) hK⟩
  · have hlt0 : gx_skip x L 0 < L := Decidable.byContradiction fun q => c_23 (by show (if gx_skip x L 0 < L then _ else _) = _; rw [if_neg q]; decide)
    refine ga_aload_n 0 dX6_readInto_26 rfl ?_
    refine ga_aload_n 1 dX6_readInto_27 rfl ?_
    refine gd_V1 km_X6_38 kv_X6_readCells (c_X6_readCells hc hK hR hRs rfl) (sh2 _) rfl rfl (gt_rc0 (by decide)) (Nat.le_of_ble_eq_true rfl) dX6_readInto_28 (fun r_28 w_28 q_28 => ?_)
    obtain ⟨rfl, o28, hR, hK⟩ := q_28
    refine ga_iconst (nI 0) dX6_readInto_31 (by decide) ?_
    refine gs_istore_n [(0, _), (1, _), (2, _)] dX6_readInto_32 (by decide) rfl rfl ?_
    have loop : ∀ k i, i + k = 240 → ∀ (s1 : gx_T) (K1 : gx_K) (w1 : gt_W), gx_RW x L s1 → gx_KB K1 → gx_ri x L = gx_rl x L k s1 K1 → gx_Co w1 c K1 → gx_Rd w1 x L s1 → (∀ a, a ≠ 2 → (a < c ∨ c + 8 ≤ a) → w1 a = w a) → gt_A l G RX6 "readInto" cX6_readInto 3 (some .int) (gt_rm 6 0 0) (gt_ZD G n (fun r w' => r = some (.int (nI (gx_ri x L).1.2.1)) ∧ (∀ a, a ≠ 2 → (a < c ∨ c + 8 ≤ a) → w' a = w a) ∧ w' 2 4 = gx_seat (gx_ri x L).1.2.2 ∧ w' 2 1 = nI 0 ∧ gx_Co w' c (gx_ri x L).2)) (n, 0, 0) 33 [(0, .ref 2), (1, .ref c), (2, .int (nI i))] [] (gt_enc w1) := by
      intro k
      induction k with
      | zero =>
        intro i hi s1 K1 w1 hRW kb hcs hK hR hF
        obtain ⟨F, hFe⟩ : ∃ F, F = gx_ri x L := ⟨_, rfl⟩
        have hF1 : F = (s1, K1) := hFe.trans hcs
        have hK : gx_Co w1 c F.2 := by rw [hF1]; exact hK
        have hR : gx_Rd w1 x L F.1 := by rw [hF1]; exact hR
        refine ga_iload_n 2 dX6_readInto_33 rfl ?_
        refine ga_sipush (nI 240) dX6_readInto_34 (by decide) ?_
        refine ga_icmp_ge 65 dX6_readInto_37 (by decide) (fun c_37 => ?_) (fun c_37 => absurd (nI_le (by omega) (by omega)) c_37)
        refine ga_aload_n 0 dX6_readInto_65 rfl ?_
        refine ga_iconst (nI 0) dX6_readInto_66 (by decide) ?_
        refine gw_put 1 kp_X6_19 (sh2 _) (sh2 _) rfl rfl (Nat.le_of_ble_eq_true rfl) dX6_readInto_67 (fun w_67 o_67 e_67 => ?_)
        refine ga_aload_n 0 dX6_readInto_70 rfl ?_
        refine ga_get kf_X6_26 (sh2 _) (gvv (nI F.1.2.1) (by rw [e_67, upd_ne _ _ (by decide)]; exact hR.1.2.2.1)) dX6_readInto_71 ?_
        exact gd_iret dX6_readInto_74 ⟨by rw [hFe], fun a h1 h2 => by rw [o_67 a h1]; exact hF a h1 h2, by rw [← hFe, e_67, upd_ne _ _ (by decide)]; exact hR.1.2.2.2, by rw [e_67, upd_eq], by rw [← hFe]; exact gx_Co_eq9 hc (fun a ha => o_67 a (by omega)) hK⟩
      | succ k ih =>
        intro i hi s1 K1 w1 hRW kb hcs hK hR hF
        have hRs := gx_RW_sk hRW
        refine ga_iload_n 2 dX6_readInto_33 rfl ?_
        refine ga_sipush (nI 240) dX6_readInto_34 (by decide) ?_
        refine ga_icmp_ge 65 dX6_readInto_37 (by decide) (fun c_37 => absurd c_37 (nI_ge (by omega) (by omega))) (fun c_37 => ?_)
        refine ga_aload_n 0 dX6_readInto_40 rfl ?_
        refine ga_get kf_X6_26 (sh2 _) (gv hR.1.2.2.1) dX6_readInto_41 ?_
        refine ga_if_ne 65 dX6_readInto_44 (by decide) (fun c_44 => ?_) (fun c_44 => ?_)
        · have hk9 : ¬ s1.2.1 = 0 := fun q => c_44 (by rw [q]; decide)
          obtain ⟨F, hFe⟩ : ∃ F, F = gx_ri x L := ⟨_, rfl⟩
          have hF1 : F = (s1, K1) := hFe.trans (hcs.trans (if_neg hk9))
          have hK : gx_Co w1 c F.2 := by rw [hF1]; exact hK
          have hR : gx_Rd w1 x L F.1 := by rw [hF1]; exact hR
          refine ga_aload_n 0 dX6_readInto_65 rfl ?_
          refine ga_iconst (nI 0) dX6_readInto_66 (by decide) ?_
          refine gw_put 1 kp_X6_19 (sh2 _) (sh2 _) rfl rfl (Nat.le_of_ble_eq_true rfl) dX6_readInto_67 (fun w_67 o_67 e_67 => ?_)
          refine ga_aload_n 0 dX6_readInto_70 rfl ?_
          refine ga_get kf_X6_26 (sh2 _) (gvv (nI F.1.2.1) (by rw [e_67, upd_ne _ _ (by decide)]; exact hR.1.2.2.1)) dX6_readInto_71 ?_
          exact gd_iret dX6_readInto_74 ⟨by rw [hFe], fun a h1 h2 => by rw [o_67 a h1]; exact hF a h1 h2, by rw [← hFe, e_67, upd_ne _ _ (by decide)]; exact hR.1.2.2.2, by rw [e_67, upd_eq], by rw [← hFe]; exact gx_Co_eq9 hc (fun a ha => o_67 a (by omega)) hK⟩
        · have hk9 : s1.2.1 = 0 := Decidable.byContradiction fun q => nI_ne0 (Nat.pos_of_ne_zero q) (by have := hRW.2.2.1; omega) c_44
          refine ga_aload_n 0 dX6_readInto_47 rfl ?_
          refine gd_V0 km_X6_34 kv_X6_moreComes (c_X6_moreComes hR hRW) (sh2 _) rfl rfl (gt_rc0 (by decide)) (Nat.le_of_ble_eq_true rfl) dX6_readInto_48 (fun r_48 w_48 q_48 => ?_)
          obtain ⟨rfl, o48, hR⟩ := q_48
          have hK := gx_Co_eq9 hc (fun a ha => o48 a (by omega)) hK
          have hF := fun a h1 h2 => (o48 a h1).trans (hF a h1 h2)
          refine ga_if_eq 65 dX6_readInto_51 (by decide) (fun c_51 => ?_) (fun c_51 => ?_)
          · have hnl : ¬ gx_skip x L s1.1 < L := fun q => absurd c_51 (by rw [if_pos q]; decide)
            obtain ⟨F, hFe⟩ : ∃ F, F = gx_ri x L := ⟨_, rfl⟩
            have hF1 : F = ((gx_skip x L s1.1, s1.2), K1) := hFe.trans (hcs.trans ((if_pos hk9).trans (if_neg hnl)))
            have hK : gx_Co w_48 c F.2 := by rw [hF1]; exact hK
            have hR : gx_Rd w_48 x L F.1 := by rw [hF1]; exact hR
            refine ga_aload_n 0 dX6_readInto_65 rfl ?_
            refine ga_iconst (nI 0) dX6_readInto_66 (by decide) ?_
            refine gw_put 1 kp_X6_19 (sh2 _) (sh2 _) rfl rfl (Nat.le_of_ble_eq_true rfl) dX6_readInto_67 (fun w_67 o_67 e_67 => ?_)
            refine ga_aload_n 0 dX6_readInto_70 rfl ?_
            refine ga_get kf_X6_26 (sh2 _) (gvv (nI F.1.2.1) (by rw [e_67, upd_ne _ _ (by decide)]; exact hR.1.2.2.1)) dX6_readInto_71 ?_
            exact gd_iret dX6_readInto_74 ⟨by rw [hFe], fun a h1 h2 => by rw [o_67 a h1]; exact hF a h1 h2, by rw [← hFe, e_67, upd_ne _ _ (by decide)]; exact hR.1.2.2.2, by rw [e_67, upd_eq], by rw [← hFe]; exact gx_Co_eq9 hc (fun a ha => o_67 a (by omega)) hK⟩
          · have hlt : gx_skip x L s1.1 < L := Decidable.byContradiction fun q => c_51 (by rw [if_neg q]; decide)
            refine ga_aload_n 0 dX6_readInto_54 rfl ?_
            refine ga_aload_n 1 dX6_readInto_55 rfl ?_
            refine gd_V1 km_X6_42 kv_X6_readClause (c_X6_readClause hc hK hR hRs kb hlt) (sh2 _) rfl rfl (gt_rc0 (by decide)) (Nat.le_of_ble_eq_true rfl) dX6_readInto_56 (fun r_56 w_56 q_56 => ?_)
            obtain ⟨rfl, o56, hR, hK⟩ := q_56
            refine gs_iincN 2 1 [(0, _), (1, _), (2, _)] dX6_readInto_59 rfl (by decide) (by decide) rfl rfl ?_
            refine ga_goto 33 dX6_readInto_62 (by decide) ?_
            exact ih (i + 1) (by omega) _ _ _ (gx_RW_cl hRs) (gx_clK_B kb) (hcs.trans ((if_pos hk9).trans (if_pos hlt))) hK hR (fun a h1 h2 => (o56 a h1 h2).trans (hF a h1 h2))
    exact loop 240 0 (by decide) _ _ _ (gx_RW_ce hRs) (gx_KB_ce hRs) (if_pos hlt0) hK hR (fun a h1 h2 => by rw [o28 a h1 h2]; exact hF a h1 h2)
