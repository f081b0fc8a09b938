/-! WHAT A STATE OF THE CLASS IS: the coast K, the state V with its sleepers m, the past hs (cnt of them, the oldest first), the images, the seed, the text, the fault's place + 1, the notes -/
def gx_X (w : gt_W) (c : Nat) (K V : gx_K) (m : Int32) (hs : Nat → gx_K × Int32) (cnt : Nat) (im : Nat → Nat × (gx_K × Int32) × Nat) (sd : Nat) (x : Nat → Nat) (L fp : Nat) (Q : gx_K) : Prop :=
  (gt_isC c ∧ w 1 1 = nI c ∧ (∃ c2, gt_isC c2 ∧ c2 ≠ c ∧ w 1 2 = nI c2) ∧ w 1 11 = gx_seat fp) ∧ gx_Co w c K ∧ gx_St w 20 K V m ∧ (∃ nx, nx < 16 ∧ w 30 1 = nI nx ∧ w 30 2 = nI cnt ∧ ∀ k, k < cnt → gx_St w (32 + 5 * ((nx + 16 - cnt + k) % 16)) K (hs k).1 (hs k).2) ∧ (∀ i, i < 2 → w (149 + 6 * i) 1 = nI (im i).2.2 ∧ w (149 + 6 * i) 2 = nI (im i).1 ∧ ((im i).1 = 1 → gx_St w (150 + 6 * i) K (im i).2.1.1 (im i).2.1.2)) ∧ w 113 0 = nI sd ∧ (w 2 1 = nI L ∧ ∀ j, j < L → w 3 j = nI (x j)) ∧ gx_No w Q
def gx_Sw (K : gx_K) (s : gx_K × Int32) : Prop := gx_VW K s.1 ∧ gx_Vd K s.1 ∧ s.1 0 0 ≤ 9060
def gx_WF (K V : gx_K) (m : Int32) (hs : Nat → gx_K × Int32) (cnt : Nat) (im : Nat → Nat × (gx_K × Int32) × Nat) (sd : Nat) (x : Nat → Nat) (L fp : Nat) (Q : gx_K) : Prop :=
  gx_KW K ∧ gx_VW K V ∧ gx_Vd K V ∧ V 0 0 ≤ 9060 ∧ cnt ≤ 16 ∧ (∀ k, k < cnt → gx_Sw K (hs k)) ∧ (∀ i, i < 2 → (im i).1 ≤ 1 ∧ (im i).2.2 < 2147483648 ∧ ((im i).1 = 1 → gx_Sw K (im i).2.1)) ∧ sd < 2147483648 ∧ (L ≤ 240 ∧ ∀ j, j < L → x j ≤ 255) ∧ fp ≤ 241 ∧ gx_QW K Q
theorem gx_X_eq {w w' : gt_W} {c : Nat} {K V : gx_K} {m : Int32} {hs : Nat → gx_K × Int32} {cnt : Nat} {im : Nat → Nat × (gx_K × Int32) × Nat} {sd : Nat} {x : Nat → Nat} {L fp : Nat} {Q : gx_K} (e : ∀ a, a < 161 → (a < 25 ∨ 30 ≤ a) → (a < 123 ∨ 149 ≤ a) → w' a = w a) (hX : gx_X w c K V m hs cnt im sd x L fp Q) : gx_X w' c K V m hs cnt im sd x L fp Q := by
  obtain ⟨⟨hc, h11, h12, hfp⟩, hK, hV, ⟨nx, hx, h1, h2, h3⟩, him, hsd, htx, hQ⟩ := hX
  refine ⟨⟨hc, by rw [e 1 (by decide) (by decide) (by decide)]; exact h11, by rw [e 1 (by decide) (by decide) (by decide)]; exact h12, by rw [e 1 (by decide) (by decide) (by decide)]; exact hfp⟩, gx_Co_eq hc (fun a ha => e a (by omega) (by omega) (by omega)) hK, gx_St_eq (fun a q1 q2 => e a (by omega) (by omega) (by omega)) hV, ⟨nx, hx, by rw [e 30 (by decide) (by decide) (by decide)]; exact h1, by rw [e 30 (by decide) (by decide) (by decide)]; exact h2, fun k hk => gx_St_eq (fun a q1 q2 => e a (by omega) (by omega) (by omega)) (h3 k hk)⟩, fun i hi => ?_, by rw [e 113 (by decide) (by decide) (by decide)]; exact hsd, by rw [e 2 (by decide) (by decide) (by decide), e 3 (by decide) (by decide) (by decide)]; exact htx, gx_No_eq (fun a q1 q2 => e a (by omega) (by omega) (by omega)) hQ⟩
  have h := him i hi
  exact ⟨by rw [e (149 + 6 * i) (by omega) (by omega) (by omega)]; exact h.1, by rw [e (149 + 6 * i) (by omega) (by omega) (by omega)]; exact h.2.1, fun q => gx_St_eq (fun a q1 q2 => e a (by omega) (by omega) (by omega)) (h.2.2 q)⟩
/-! what the calls answer -/
abbrev gUNK : Int32 := -1000000001
abbrev gOUT : Int32 := -1000000002
abbrev gNOT : Int32 := -1000000003
abbrev gFUL : Int32 := -1000000004
def gx_slept (K V Q : gx_K) (p : Nat) : Prop := ¬ V 2 p = 0 ∧ gx_fit K V Q p
def aTold (K V : gx_K) (m : Int32) (cnt L : Nat) (Q : gx_K) (t : Int32) : Int32 :=
  if t = nI 0 then nI (K 0 0) else if t = nI 1 then nI (K 0 1) else if t = nI 2 then nI (K 0 2) else if t = nI 3 then nI (K 0 3) else if t = nI 4 then nI L else if t = nI 5 then nI (V 0 0) else if t = nI 6 then nI (gx_slope K V) else if t = nI 7 then gx_seat (gx_steep K V) else if t = nI 8 then gx_set (fun x => 0 < gx_dep K V x) (K 0 0) else if t = nI 9 then gx_set (fun b => gx_dep K V (V 4 b) < K 5 b) (K 0 3) else if t = nI 10 then gx_set (fun b => V 4 b = K 7 b) (K 0 3) else if t = nI 11 then gx_set (fun p => ¬ V 2 p = 0) (K 0 2) else if t = nI 12 then m else if t = nI 13 then nI (Q 0 0) else if t = nI 14 then gx_set (fun p => ¬ V 2 p = 0 ∧ gx_fit K V Q p) (K 0 2) else if t = nI 15 then nI (Q 0 1) else if t = nI 16 then gx_set (fun g => 1 ≤ g ∧ gx_gut Q g) 21 else if t = nI 17 then nI (Q 0 2) else if t = nI 18 then nI cnt else gOUT
def aCell (K V : gx_K) (a t : Int32) : Int32 := if gx_in a (nI (K 0 0)) = 0 then gUNK else if t = nI 0 then nI (K 1 a.toNatClampNeg) else if t = nI 1 then nI (gx_sea K V a.toNatClampNeg) else if t = nI 2 then nI (gx_dep K V a.toNatClampNeg) else if t = nI 3 then gx_seat (gx_argp (gx_bf K V a.toNatClampNeg) (K 0 1)) else gOUT
def aTower (K V : gx_K) (a t : Int32) : Int32 := if gx_in a (nI (K 0 1)) = 0 then gUNK else if t = nI 0 then nI (K 2 a.toNatClampNeg) else if t = nI 1 then nI (K 3 a.toNatClampNeg) else if t = nI 2 then nI (V 1 a.toNatClampNeg) else if t = nI 3 then gx_first (fun p => V 2 p = a.toNatClampNeg + 1) 0 (K 0 2) else gOUT
def aPlayer (K V : gx_K) (m a t : Int32) : Int32 := if gx_in a (nI (K 0 2)) = 0 then gUNK else if t = nI 0 then nI (K 4 a.toNatClampNeg) else if t = nI 1 then nI (V 3 a.toNatClampNeg) else if t = nI 2 then gx_seat (V 2 a.toNatClampNeg) else if t = nI 3 then gx_slpB m a else gOUT
def aBoat (K V : gx_K) (a t : Int32) : Int32 := if gx_in a (nI (K 0 3)) = 0 then gUNK else if t = nI 0 then nI (K 5 a.toNatClampNeg) else if t = nI 1 then nI (V 4 a.toNatClampNeg) else if t = nI 2 then nI (K 6 a.toNatClampNeg) else if t = nI 3 then nI (K 7 a.toNatClampNeg) else gOUT
theorem gx_out {x : Int32} {hi k : Nat} (h : x.toInt < 0 ∨ (hi : Int) < x.toInt) (hk : k ≤ hi) (hb : hi < 2 ^ 31) : ¬ x = nI k := by
  rintro rfl
  rw [nI_toInt (by omega)] at h
  omega
set_option maxRecDepth 100000 in
set_option maxHeartbeats 4000000 in
theorem c_X9_told {l : Launch} {G : gt_G} {n : Nat} {w : gt_W} {c : Nat} {K V : gx_K} {m : Int32} {hs : Nat → gx_K × Int32} {cnt : Nat} {im : Nat → Nat × (gx_K × Int32) × Nat} {sd : Nat} {x : Nat → Nat} {L fp : Nat} {Q : gx_K} (hX : gx_X w c K V m hs cnt im sd x L fp Q) (hW : gx_WF K V m hs cnt im sd x L fp Q) (t9 : Int32) : gt_D l G yX9_told cX9_told 2 (some .int) 6 n [.ref 1, .int t9] w (fun r w' => r = some (.int (aTold K V m cnt L Q t9)) ∧ gx_X w' c K V m hs cnt im sd x L fp Q ∧ ∀ a, 161 ≤ a → w' a = w a) := by
  obtain ⟨⟨hc, h11, ⟨c2, hc2, hne2, h12⟩, hfp⟩, hK, hV, hpast, him, hsd, htx, hQ⟩ := id hX
  obtain ⟨kw, vw, vd, hhr, hcnt, hhs, him2, hsd2, hxL, hfp2, qw⟩ := id hW
  have hcur : (some (Value.ref (w 1 1).toNatClampNeg) : Option Value) = some (Value.ref c) := by rw [h11, nI_clamp (by have := gt_isC_lt hc; omega)]
  refine gt_D_of (own := RX9) (nm := "told") rfl rfl (by decide +kernel) (Nat.le_of_ble_eq_true rfl) ?_
  show gt_A _ _ _ _ _ _ _ _ _ _ _ [(0, .ref 1), (1, .int t9)] _ _
  refine ga_iload_n 1 dX9_told_0 rfl ?_
  rcases gx_sw t9 18 with sw_1 | ⟨v_1, hv_1, sw_1⟩
  · refine ga_tableOut 284 dX9_told_1 (by simpa using sw_1) (by decide) ?_
    refine ga_ldc kc_X9_86 dX9_told_284 ?_
    exact gd_iret dX9_told_286 ⟨gv (by unfold aTold; rw [if_neg (gx_out sw_1 (by decide) (by decide)), if_neg (gx_out sw_1 (by decide) (by decide)), if_neg (gx_out sw_1 (by decide) (by decide)), if_neg (gx_out sw_1 (by decide) (by decide)), if_neg (gx_out sw_1 (by decide) (by decide)), if_neg (gx_out sw_1 (by decide) (by decide)), if_neg (gx_out sw_1 (by decide) (by decide)), if_neg (gx_out sw_1 (by decide) (by decide)), if_neg (gx_out sw_1 (by decide) (by decide)), if_neg (gx_out sw_1 (by decide) (by decide)), if_neg (gx_out sw_1 (by decide) (by decide)), if_neg (gx_out sw_1 (by decide) (by decide)), if_neg (gx_out sw_1 (by decide) (by decide)), if_neg (gx_out sw_1 (by decide) (by decide)), if_neg (gx_out sw_1 (by decide) (by decide)), if_neg (gx_out sw_1 (by decide) (by decide)), if_neg (gx_out sw_1 (by decide) (by decide)), if_neg (gx_out sw_1 (by decide) (by decide)), if_neg (gx_out sw_1 (by decide) (by decide))]), hX, fun _ _ => rfl⟩
  rcases (show v_1 = 0 ∨ v_1 = 1 ∨ v_1 = 2 ∨ v_1 = 3 ∨ v_1 = 4 ∨ v_1 = 5 ∨ v_1 = 6 ∨ v_1 = 7 ∨ v_1 = 8 ∨ v_1 = 9 ∨ v_1 = 10 ∨ v_1 = 11 ∨ v_1 = 12 ∨ v_1 = 13 ∨ v_1 = 14 ∨ v_1 = 15 ∨ v_1 = 16 ∨ v_1 = 17 ∨ v_1 = 18 by omega) with rfl | rfl | rfl | rfl | rfl | rfl | rfl | rfl | rfl | rfl | rfl | rfl | rfl | rfl | rfl | rfl | rfl | rfl | rfl
  · refine ga_top (nI 0) (by rw [sw_1]) ?_
    refine ga_tableIn 92 dX9_told_1 (by decide) (by decide) rfl (by decide) ?_
    refine ga_aload_n 0 dX9_told_92 rfl ?_
    refine ga_get kf_X9_19 (sh1 _) hcur dX9_told_93 ?_
    refine ga_get kf_X9_113 (shC hc _) (gv hK.1.1) dX9_told_96 ?_
    exact gd_iret dX9_told_99 ⟨gv (by rw [sw_1]; unfold aTold; rw [if_pos rfl]), hX, fun _ _ => rfl⟩
  · refine ga_top (nI 1) (by rw [sw_1]) ?_
    refine ga_tableIn 100 dX9_told_1 (by decide) (by decide) rfl (by decide) ?_
    refine ga_aload_n 0 dX9_told_100 rfl ?_
    refine ga_get kf_X9_19 (sh1 _) hcur dX9_told_101 ?_
    refine ga_get kf_X9_116 (shC hc _) (gv hK.1.2.1) dX9_told_104 ?_
    exact gd_iret dX9_told_107 ⟨gv (by rw [sw_1]; unfold aTold; rw [if_neg (by decide), if_pos rfl]), hX, fun _ _ => rfl⟩
  · refine ga_top (nI 2) (by rw [sw_1]) ?_
    refine ga_tableIn 108 dX9_told_1 (by decide) (by decide) rfl (by decide) ?_
    refine ga_aload_n 0 dX9_told_108 rfl ?_
    refine ga_get kf_X9_19 (sh1 _) hcur dX9_told_109 ?_
    refine ga_get kf_X9_119 (shC hc _) (gv hK.1.2.2.1) dX9_told_112 ?_
    exact gd_iret dX9_told_115 ⟨gv (by rw [sw_1]; unfold aTold; rw [if_neg (by decide), if_neg (by decide), if_pos rfl]), hX, fun _ _ => rfl⟩
  · refine ga_top (nI 3) (by rw [sw_1]) ?_
    refine ga_tableIn 116 dX9_told_1 (by decide) (by decide) rfl (by decide) ?_
    refine ga_aload_n 0 dX9_told_116 rfl ?_
    refine ga_get kf_X9_19 (sh1 _) hcur dX9_told_117 ?_
    refine ga_get kf_X9_122 (shC hc _) (gv hK.1.2.2.2) dX9_told_120 ?_
    exact gd_iret dX9_told_123 ⟨gv (by rw [sw_1]; unfold aTold; rw [if_neg (by decide), if_neg (by decide), if_neg (by decide), if_pos rfl]), hX, fun _ _ => rfl⟩
  · refine ga_top (nI 4) (by rw [sw_1]) ?_
    refine ga_tableIn 124 dX9_told_1 (by decide) (by decide) rfl (by decide) ?_
    refine ga_aload_n 0 dX9_told_124 rfl ?_
    refine ga_get kf_X9_10 (sh1 _) rfl dX9_told_125 ?_
    refine ga_V0 km_X9_125 kv_X6_letters (c_X6_letters htx.1) (sh2 _) rfl rfl (gt_rc0 (by decide)) (Nat.le_of_ble_eq_true rfl) dX9_told_128 ?_
    exact gd_iret dX9_told_131 ⟨gv (by rw [sw_1]; unfold aTold; rw [if_neg (by decide), if_neg (by decide), if_neg (by decide), if_neg (by decide), if_pos rfl]), hX, fun _ _ => rfl⟩
  · refine ga_top (nI 5) (by rw [sw_1]) ?_
    refine ga_tableIn 132 dX9_told_1 (by decide) (by decide) rfl (by decide) ?_
    refine ga_aload_n 0 dX9_told_132 rfl ?_
    refine ga_get kf_X9_29 (sh1 _) rfl dX9_told_133 ?_
    refine ga_get kf_X9_128 (shS isS20 _) (gv hV.1) dX9_told_136 ?_
    exact gd_iret dX9_told_139 ⟨gv (by rw [sw_1]; unfold aTold; rw [if_neg (by decide), if_neg (by decide), if_neg (by decide), if_neg (by decide), if_neg (by decide), if_pos rfl]), hX, fun _ _ => rfl⟩
  · refine ga_top (nI 6) (by rw [sw_1]) ?_
    refine ga_tableIn 140 dX9_told_1 (by decide) (by decide) rfl (by decide) ?_
    refine ga_aload_n 0 dX9_told_140 rfl ?_
    refine ga_get kf_X9_29 (sh1 _) rfl dX9_told_141 ?_
    refine ga_aload_n 0 dX9_told_144 rfl ?_
    refine ga_get kf_X9_19 (sh1 _) hcur dX9_told_145 ?_
    refine ga_V1 km_X9_131 kv_X8_slope (c_X8_slope hc hK kw isS20 hV vw) (shS isS20 _) rfl rfl (gt_rc0 (by decide)) (Nat.le_of_ble_eq_true rfl) dX9_told_148 ?_
    exact gd_iret dX9_told_151 ⟨gv (by rw [sw_1]; unfold aTold; rw [if_neg (by decide), if_neg (by decide), if_neg (by decide), if_neg (by decide), if_neg (by decide), if_neg (by decide), if_pos rfl]), hX, fun _ _ => rfl⟩
  · refine ga_top (nI 7) (by rw [sw_1]) ?_
    refine ga_tableIn 152 dX9_told_1 (by decide) (by decide) rfl (by decide) ?_
    refine ga_aload_n 0 dX9_told_152 rfl ?_
    refine ga_get kf_X9_29 (sh1 _) rfl dX9_told_153 ?_
    refine ga_aload_n 0 dX9_told_156 rfl ?_
    refine ga_get kf_X9_19 (sh1 _) hcur dX9_told_157 ?_
    refine ga_V1 km_X9_134 kv_X8_steepest (c_X8_steepest hc hK kw isS20 hV vw) (shS isS20 _) rfl rfl (gt_rc0 (by decide)) (Nat.le_of_ble_eq_true rfl) dX9_told_160 ?_
    exact gd_iret dX9_told_163 ⟨gv (by rw [sw_1]; unfold aTold; rw [if_neg (by decide), if_neg (by decide), if_neg (by decide), if_neg (by decide), if_neg (by decide), if_neg (by decide), if_neg (by decide), if_pos rfl]), hX, fun _ _ => rfl⟩
  · refine ga_top (nI 8) (by rw [sw_1]) ?_
    refine ga_tableIn 164 dX9_told_1 (by decide) (by decide) rfl (by decide) ?_
    refine ga_aload_n 0 dX9_told_164 rfl ?_
    refine ga_get kf_X9_29 (sh1 _) rfl dX9_told_165 ?_
    refine ga_aload_n 0 dX9_told_168 rfl ?_
    refine ga_get kf_X9_19 (sh1 _) hcur dX9_told_169 ?_
    refine ga_V1 km_X9_137 kv_X8_wet (c_X8_wet hc hK kw isS20 hV vw) (shS isS20 _) rfl rfl (gt_rc0 (by decide)) (Nat.le_of_ble_eq_true rfl) dX9_told_172 ?_
    exact gd_iret dX9_told_175 ⟨gv (by rw [sw_1]; unfold aTold; rw [if_neg (by decide), if_neg (by decide), if_neg (by decide), if_neg (by decide), if_neg (by decide), if_neg (by decide), if_neg (by decide), if_neg (by decide), if_pos rfl]), hX, fun _ _ => rfl⟩
  · refine ga_top (nI 9) (by rw [sw_1]) ?_
    refine ga_tableIn 176 dX9_told_1 (by decide) (by decide) rfl (by decide) ?_
    refine ga_aload_n 0 dX9_told_176 rfl ?_
    refine ga_get kf_X9_29 (sh1 _) rfl dX9_told_177 ?_
    refine ga_aload_n 0 dX9_told_180 rfl ?_
    refine ga_get kf_X9_19 (sh1 _) hcur dX9_told_181 ?_
    refine ga_V1 km_X9_140 kv_X8_aground (c_X8_aground hc hK kw isS20 hV vw) (shS isS20 _) rfl rfl (gt_rc0 (by decide)) (Nat.le_of_ble_eq_true rfl) dX9_told_184 ?_
    exact gd_iret dX9_told_187 ⟨gv (by rw [sw_1]; unfold aTold; rw [if_neg (by decide), if_neg (by decide), if_neg (by decide), if_neg (by decide), if_neg (by decide), if_neg (by decide), if_neg (by decide), if_neg (by decide), if_neg (by decide), if_pos rfl]), hX, fun _ _ => rfl⟩
  · refine ga_top (nI 10) (by rw [sw_1]) ?_
    refine ga_tableIn 188 dX9_told_1 (by decide) (by decide) rfl (by decide) ?_
    refine ga_aload_n 0 dX9_told_188 rfl ?_
    refine ga_get kf_X9_29 (sh1 _) rfl dX9_told_189 ?_
    refine ga_aload_n 0 dX9_told_192 rfl ?_
    refine ga_get kf_X9_19 (sh1 _) hcur dX9_told_193 ?_
    refine ga_V1 km_X9_143 kv_X8_arrived (c_X8_arrived hc hK kw isS20 hV vw) (shS isS20 _) rfl rfl (gt_rc0 (by decide)) (Nat.le_of_ble_eq_true rfl) dX9_told_196 ?_
    exact gd_iret dX9_told_199 ⟨gv (by rw [sw_1]; unfold aTold; rw [if_neg (by decide), if_neg (by decide), if_neg (by decide), if_neg (by decide), if_neg (by decide), if_neg (by decide), if_neg (by decide), if_neg (by decide), if_neg (by decide), if_neg (by decide), if_pos rfl]), hX, fun _ _ => rfl⟩
  · refine ga_top (nI 11) (by rw [sw_1]) ?_
    refine ga_tableIn 200 dX9_told_1 (by decide) (by decide) rfl (by decide) ?_
    refine ga_aload_n 0 dX9_told_200 rfl ?_
    refine ga_get kf_X9_29 (sh1 _) rfl dX9_told_201 ?_
    refine ga_aload_n 0 dX9_told_204 rfl ?_
    refine ga_get kf_X9_19 (sh1 _) hcur dX9_told_205 ?_
    refine ga_V1 km_X9_146 kv_X8_sitting (c_X8_sitting hc hK kw isS20 hV vw) (shS isS20 _) rfl rfl (gt_rc0 (by decide)) (Nat.le_of_ble_eq_true rfl) dX9_told_208 ?_
    exact gd_iret dX9_told_211 ⟨gv (by rw [sw_1]; unfold aTold; rw [if_neg (by decide), if_neg (by decide), if_neg (by decide), if_neg (by decide), if_neg (by decide), if_neg (by decide), if_neg (by decide), if_neg (by decide), if_neg (by decide), if_neg (by decide), if_neg (by decide), if_pos rfl]), hX, fun _ _ => rfl⟩
  · refine ga_top (nI 12) (by rw [sw_1]) ?_
    refine ga_tableIn 212 dX9_told_1 (by decide) (by decide) rfl (by decide) ?_
    refine ga_aload_n 0 dX9_told_212 rfl ?_
    refine ga_get kf_X9_29 (sh1 _) rfl dX9_told_213 ?_
    refine ga_get kf_X9_149 (shS isS20 _) (gv hV.2.1) dX9_told_216 ?_
    exact gd_iret dX9_told_219 ⟨gv (by rw [sw_1]; unfold aTold; rw [if_neg (by decide), if_neg (by decide), if_neg (by decide), if_neg (by decide), if_neg (by decide), if_neg (by decide), if_neg (by decide), if_neg (by decide), if_neg (by decide), if_neg (by decide), if_neg (by decide), if_neg (by decide), if_pos rfl]), hX, fun _ _ => rfl⟩
  · refine ga_top (nI 13) (by rw [sw_1]) ?_
    refine ga_tableIn 220 dX9_told_1 (by decide) (by decide) rfl (by decide) ?_
    refine ga_aload_n 0 dX9_told_220 rfl ?_
    refine ga_get kf_X9_59 (sh1 _) rfl dX9_told_221 ?_
    refine ga_get kf_X9_152 (sh114 _) (gv hQ.1.1) dX9_told_224 ?_
    exact gd_iret dX9_told_227 ⟨gv (by rw [sw_1]; unfold aTold; rw [if_neg (by decide), if_neg (by decide), if_neg (by decide), if_neg (by decide), if_neg (by decide), if_neg (by decide), if_neg (by decide), if_neg (by decide), if_neg (by decide), if_neg (by decide), if_neg (by decide), if_neg (by decide), if_neg (by decide), if_pos rfl]), hX, fun _ _ => rfl⟩
  · refine ga_top (nI 14) (by rw [sw_1]) ?_
    refine ga_tableIn 228 dX9_told_1 (by decide) (by decide) rfl (by decide) ?_
    refine ga_aload_n 0 dX9_told_228 rfl ?_
    refine ga_get kf_X9_73 (sh1 _) rfl dX9_told_229 ?_
    refine ga_aload_n 0 dX9_told_232 rfl ?_
    refine ga_get kf_X9_19 (sh1 _) hcur dX9_told_233 ?_
    refine ga_aload_n 0 dX9_told_236 rfl ?_
    refine ga_get kf_X9_29 (sh1 _) rfl dX9_told_237 ?_
    refine ga_aload_n 0 dX9_told_240 rfl ?_
    refine ga_get kf_X9_59 (sh1 _) rfl dX9_told_241 ?_
    refine ga_aload_n 0 dX9_told_244 rfl ?_
    refine ga_get kf_X9_33 (sh1 _) rfl dX9_told_245 ?_
    refine gd_V4 km_X9_155 kv_X7_fitting (c_X7_fitting hc hK kw hV vw hQ qw) (sh141 _) rfl rfl (gt_rc0 (by decide)) (Nat.le_of_ble_eq_true rfl) dX9_told_248 (fun r_248 w_248 q_248 => ?_)
    obtain ⟨rfl, hF9⟩ := q_248
    exact gd_iret dX9_told_251 ⟨gv (by rw [sw_1]; unfold aTold; rw [if_neg (by decide), if_neg (by decide), if_neg (by decide), if_neg (by decide), if_neg (by decide), if_neg (by decide), if_neg (by decide), if_neg (by decide), if_neg (by decide), if_neg (by decide), if_neg (by decide), if_neg (by decide), if_neg (by decide), if_neg (by decide), if_pos rfl]), gx_X_eq (fun a q1 q2 q3 => hF9 a q2) hX, fun a ha => hF9 a (by omega)⟩
  · refine ga_top (nI 15) (by rw [sw_1]) ?_
    refine ga_tableIn 252 dX9_told_1 (by decide) (by decide) rfl (by decide) ?_
    refine ga_aload_n 0 dX9_told_252 rfl ?_
    refine ga_get kf_X9_59 (sh1 _) rfl dX9_told_253 ?_
    refine ga_get kf_X9_159 (sh114 _) (gv hQ.1.2.1) dX9_told_256 ?_
    exact gd_iret dX9_told_259 ⟨gv (by rw [sw_1]; unfold aTold; rw [if_neg (by decide), if_neg (by decide), if_neg (by decide), if_neg (by decide), if_neg (by decide), if_neg (by decide), if_neg (by decide), if_neg (by decide), if_neg (by decide), if_neg (by decide), if_neg (by decide), if_neg (by decide), if_neg (by decide), if_neg (by decide), if_neg (by decide), if_pos rfl]), hX, fun _ _ => rfl⟩
  · refine ga_top (nI 16) (by rw [sw_1]) ?_
    refine ga_tableIn 260 dX9_told_1 (by decide) (by decide) rfl (by decide) ?_
    refine ga_aload_n 0 dX9_told_260 rfl ?_
    refine ga_get kf_X9_59 (sh1 _) rfl dX9_told_261 ?_
    refine ga_V0 km_X9_162 kv_X3_guts (c_X3_guts hQ qw) (sh114 _) rfl rfl (gt_rc0 (by decide)) (Nat.le_of_ble_eq_true rfl) dX9_told_264 ?_
    exact gd_iret dX9_told_267 ⟨gv (by rw [sw_1]; unfold aTold; rw [if_neg (by decide), if_neg (by decide), if_neg (by decide), if_neg (by decide), if_neg (by decide), if_neg (by decide), if_neg (by decide), if_neg (by decide), if_neg (by decide), if_neg (by decide), if_neg (by decide), if_neg (by decide), if_neg (by decide), if_neg (by decide), if_neg (by decide), if_neg (by decide), if_pos rfl]), hX, fun _ _ => rfl⟩
  · refine ga_top (nI 17) (by rw [sw_1]) ?_
    refine ga_tableIn 268 dX9_told_1 (by decide) (by decide) rfl (by decide) ?_
    refine ga_aload_n 0 dX9_told_268 rfl ?_
    refine ga_get kf_X9_59 (sh1 _) rfl dX9_told_269 ?_
    refine ga_get kf_X9_165 (sh114 _) (gv hQ.1.2.2) dX9_told_272 ?_
    exact gd_iret dX9_told_275 ⟨gv (by rw [sw_1]; unfold aTold; rw [if_neg (by decide), if_neg (by decide), if_neg (by decide), if_neg (by decide), if_neg (by decide), if_neg (by decide), if_neg (by decide), if_neg (by decide), if_neg (by decide), if_neg (by decide), if_neg (by decide), if_neg (by decide), if_neg (by decide), if_neg (by decide), if_neg (by decide), if_neg (by decide), if_neg (by decide), if_pos rfl]), hX, fun _ _ => rfl⟩
  · refine ga_top (nI 18) (by rw [sw_1]) ?_
    refine ga_tableIn 276 dX9_told_1 (by decide) (by decide) rfl (by decide) ?_
    refine ga_aload_n 0 dX9_told_276 rfl ?_
    refine ga_get kf_X9_39 (sh1 _) rfl dX9_told_277 ?_
    refine ga_get kf_X9_168 (sh30 _) (gv hpast.choose_spec.2.2.1) dX9_told_280 ?_
    exact gd_iret dX9_told_283 ⟨gv (by rw [sw_1]; unfold aTold; rw [if_neg (by decide), if_neg (by decide), if_neg (by decide), if_neg (by decide), if_neg (by decide), if_neg (by decide), if_neg (by decide), if_neg (by decide), if_neg (by decide), if_neg (by decide), if_neg (by decide), if_neg (by decide), if_neg (by decide), if_neg (by decide), if_neg (by decide), if_neg (by decide), if_neg (by decide), if_neg (by decide), if_pos rfl]), hX, fun _ _ => rfl⟩
set_option maxRecDepth 100000 in
set_option maxHeartbeats 4000000 in
theorem c_X9_fault {l : Launch} {G : gt_G} {n : Nat} {w : gt_W} {c : Nat} {K V : gx_K} {m : Int32} {hs : Nat → gx_K × Int32} {cnt : Nat} {im : Nat → Nat × (gx_K × Int32) × Nat} {sd : Nat} {x : Nat → Nat} {L fp : Nat} {Q : gx_K} (hX : gx_X w c K V m hs cnt im sd x L fp Q) (hW : gx_WF K V m hs cnt im sd x L fp Q)  : gt_D l G yX9_fault cX9_fault 1 (some .int) 1 n [.ref 1] w (fun r w' => r = some (.int (gx_seat fp)) ∧ gx_X w' c K V m hs cnt im sd x L fp Q ∧ ∀ a, 161 ≤ a → w' a = w a) := by
  obtain ⟨⟨hc, h11, ⟨c2, hc2, hne2, h12⟩, hfp⟩, hK, hV, hpast, him, hsd, htx, hQ⟩ := id hX
  obtain ⟨kw, vw, vd, hhr, hcnt, hhs, him2, hsd2, hxL, hfp2, qw⟩ := id hW
  have hcur : (some (Value.ref (w 1 1).toNatClampNeg) : Option Value) = some (Value.ref c) := by rw [h11, nI_clamp (by have := gt_isC_lt hc; omega)]
  refine gt_D_of (own := RX9) (nm := "fault") rfl rfl (by decide +kernel) (Nat.le_of_ble_eq_true rfl) ?_
  show gt_A _ _ _ _ _ _ _ _ _ _ _ [(0, .ref 1)] _ _
  refine ga_aload_n 0 dX9_fault_0 rfl ?_
  refine ga_get kf_X9_77 (sh1 _) (gv hfp) dX9_fault_1 ?_
  exact gd_iret dX9_fault_4 ⟨rfl, hX, fun _ _ => rfl⟩
set_option maxRecDepth 100000 in
set_option maxHeartbeats 4000000 in
theorem c_X9_cell {l : Launch} {G : gt_G} {n : Nat} {w : gt_W} {c : Nat} {K V : gx_K} {m : Int32} {hs : Nat → gx_K × Int32} {cnt : Nat} {im : Nat → Nat × (gx_K × Int32) × Nat} {sd : Nat} {x : Nat → Nat} {L fp : Nat} {Q : gx_K} (hX : gx_X w c K V m hs cnt im sd x L fp Q) (hW : gx_WF K V m hs cnt im sd x L fp Q) (a9 t9 : Int32) : gt_D l G yX9_cell cX9_cell 3 (some .int) 5 n [.ref 1, .int a9, .int t9] w (fun r w' => r = some (.int (aCell K V a9 t9)) ∧ gx_X w' c K V m hs cnt im sd x L fp Q ∧ ∀ a, 161 ≤ a → w' a = w a) := by
  obtain ⟨⟨hc, h11, ⟨c2, hc2, hne2, h12⟩, hfp⟩, hK, hV, hpast, him, hsd, htx, hQ⟩ := id hX
  obtain ⟨kw, vw, vd, hhr, hcnt, hhs, him2, hsd2, hxL, hfp2, qw⟩ := id hW
  have hcur : (some (Value.ref (w 1 1).toNatClampNeg) : Option Value) = some (Value.ref c) := by rw [h11, nI_clamp (by have := gt_isC_lt hc; omega)]
  refine gt_D_of (own := RX9) (nm := "cell") rfl rfl (by decide +kernel) (Nat.le_of_ble_eq_true rfl) ?_
  show gt_A _ _ _ _ _ _ _ _ _ _ _ [(0, .ref 1), (1, .int a9), (2, .int t9)] _ _
  refine ga_aload_n 0 dX9_cell_0 rfl ?_
  refine ga_get kf_X9_19 (sh1 _) hcur dX9_cell_1 ?_
  refine ga_iload_n 1 dX9_cell_4 rfl ?_
  refine ga_V1 km_X9_171 kv_X0_hasCell (c_X0_hasCell hc hK.1.1 a9) (shC hc _) rfl rfl (gt_rc0 (by decide)) (Nat.le_of_ble_eq_true rfl) dX9_cell_5 ?_
  refine ga_if_ne 14 dX9_cell_8 (by decide) (fun c_8 => ?_) (fun c_8 => ?_)
  · obtain ⟨k, hk, rfl⟩ := gx_in_of (by have := kw.1; have := kw.2.1; have := kw.2.2.1; have := kw.2.2.2.1; omega) c_8
    have ek : (nI k).toNatClampNeg = k := nI_clamp (by have := kw.1; have := kw.2.1; have := kw.2.2.1; have := kw.2.2.2.1; omega)
    refine ga_iload_n 2 dX9_cell_14 rfl ?_
    rcases gx_sw t9 3 with sw_15 | ⟨v_15, hv_15, sw_15⟩
    · refine ga_tableOut 93 dX9_cell_15 (by simpa using sw_15) (by decide) ?_
      refine ga_ldc kc_X9_86 dX9_cell_93 ?_
      exact gd_iret dX9_cell_95 ⟨gv (by unfold aCell; rw [if_neg c_8, if_neg (gx_out sw_15 (by decide) (by decide)), if_neg (gx_out sw_15 (by decide) (by decide)), if_neg (gx_out sw_15 (by decide) (by decide)), if_neg (gx_out sw_15 (by decide) (by decide))]), hX, fun _ _ => rfl⟩
    rcases (show v_15 = 0 ∨ v_15 = 1 ∨ v_15 = 2 ∨ v_15 = 3 by omega) with rfl | rfl | rfl | rfl
    · refine ga_top (nI 0) (by rw [sw_15]) ?_
      refine ga_tableIn 44 dX9_cell_15 (by decide) (by decide) rfl (by decide) ?_
      refine ga_aload_n 0 dX9_cell_44 rfl ?_
      refine ga_get kf_X9_19 (sh1 _) hcur dX9_cell_45 ?_
      refine ga_get kf_X9_176 (shC hc _) rfl dX9_cell_48 ?_
      refine ga_iload_n 1 dX9_cell_51 rfl ?_
      refine gl_C1 hc hK kw hk dX9_cell_52 ?_
      exact gd_iret dX9_cell_53 ⟨gv (by rw [sw_15]; unfold aCell; rw [if_neg c_8, if_pos rfl, ek]), hX, fun _ _ => rfl⟩
    · refine ga_top (nI 1) (by rw [sw_15]) ?_
      refine ga_tableIn 54 dX9_cell_15 (by decide) (by decide) rfl (by decide) ?_
      refine ga_aload_n 0 dX9_cell_54 rfl ?_
      refine ga_get kf_X9_29 (sh1 _) rfl dX9_cell_55 ?_
      refine ga_aload_n 0 dX9_cell_58 rfl ?_
      refine ga_get kf_X9_19 (sh1 _) hcur dX9_cell_59 ?_
      refine ga_iload_n 1 dX9_cell_62 rfl ?_
      refine ga_V2 km_X9_180 kv_X8_seaAt (c_X8_seaAt hc hK kw isS20 hV vw (by have := kw.1; omega)) (shS isS20 _) rfl rfl (gt_rc0 (by decide)) (Nat.le_of_ble_eq_true rfl) dX9_cell_63 ?_
      exact gd_iret dX9_cell_66 ⟨gv (by rw [sw_15]; unfold aCell; rw [if_neg c_8, if_neg (by decide), if_pos rfl, ek]), hX, fun _ _ => rfl⟩
    · refine ga_top (nI 2) (by rw [sw_15]) ?_
      refine ga_tableIn 67 dX9_cell_15 (by decide) (by decide) rfl (by decide) ?_
      refine ga_aload_n 0 dX9_cell_67 rfl ?_
      refine ga_get kf_X9_29 (sh1 _) rfl dX9_cell_68 ?_
      refine ga_aload_n 0 dX9_cell_71 rfl ?_
      refine ga_get kf_X9_19 (sh1 _) hcur dX9_cell_72 ?_
      refine ga_iload_n 1 dX9_cell_75 rfl ?_
      refine ga_V2 km_X9_184 kv_X8_depthAt (c_X8_depthAt hc hK kw isS20 hV vw hk) (shS isS20 _) rfl rfl (gt_rc0 (by decide)) (Nat.le_of_ble_eq_true rfl) dX9_cell_76 ?_
      exact gd_iret dX9_cell_79 ⟨gv (by rw [sw_15]; unfold aCell; rw [if_neg c_8, if_neg (by decide), if_neg (by decide), if_pos rfl, ek]), hX, fun _ _ => rfl⟩
    · refine ga_top (nI 3) (by rw [sw_15]) ?_
      refine ga_tableIn 80 dX9_cell_15 (by decide) (by decide) rfl (by decide) ?_
      refine ga_aload_n 0 dX9_cell_80 rfl ?_
      refine ga_get kf_X9_29 (sh1 _) rfl dX9_cell_81 ?_
      refine ga_aload_n 0 dX9_cell_84 rfl ?_
      refine ga_get kf_X9_19 (sh1 _) hcur dX9_cell_85 ?_
      refine ga_iload_n 1 dX9_cell_88 rfl ?_
      refine ga_V2 km_X9_187 kv_X8_strongest (c_X8_strongest hc hK kw isS20 hV vw (by have := kw.1; omega)) (shS isS20 _) rfl rfl (gt_rc0 (by decide)) (Nat.le_of_ble_eq_true rfl) dX9_cell_89 ?_
      exact gd_iret dX9_cell_92 ⟨gv (by rw [sw_15]; unfold aCell; rw [if_neg c_8, if_neg (by decide), if_neg (by decide), if_neg (by decide), if_pos rfl, ek]), hX, fun _ _ => rfl⟩
  · refine ga_ldc kc_X9_175 dX9_cell_11 ?_
    exact gd_iret dX9_cell_13 ⟨gv (by unfold aCell; rw [if_pos c_8]), hX, fun _ _ => rfl⟩
set_option maxRecDepth 100000 in
set_option maxHeartbeats 4000000 in
theorem c_X9_tower {l : Launch} {G : gt_G} {n : Nat} {w : gt_W} {c : Nat} {K V : gx_K} {m : Int32} {hs : Nat → gx_K × Int32} {cnt : Nat} {im : Nat → Nat × (gx_K × Int32) × Nat} {sd : Nat} {x : Nat → Nat} {L fp : Nat} {Q : gx_K} (hX : gx_X w c K V m hs cnt im sd x L fp Q) (hW : gx_WF K V m hs cnt im sd x L fp Q) (a9 t9 : Int32) : gt_D l G yX9_tower cX9_tower 3 (some .int) 5 n [.ref 1, .int a9, .int t9] w (fun r w' => r = some (.int (aTower K V a9 t9)) ∧ gx_X w' c K V m hs cnt im sd x L fp Q ∧ ∀ a, 161 ≤ a → w' a = w a) := by
  obtain ⟨⟨hc, h11, ⟨c2, hc2, hne2, h12⟩, hfp⟩, hK, hV, hpast, him, hsd, htx, hQ⟩ := id hX
  obtain ⟨kw, vw, vd, hhr, hcnt, hhs, him2, hsd2, hxL, hfp2, qw⟩ := id hW
  have hcur : (some (Value.ref (w 1 1).toNatClampNeg) : Option Value) = some (Value.ref c) := by rw [h11, nI_clamp (by have := gt_isC_lt hc; omega)]
  refine gt_D_of (own := RX9) (nm := "tower") rfl rfl (by decide +kernel) (Nat.le_of_ble_eq_true rfl) ?_
  show gt_A _ _ _ _ _ _ _ _ _ _ _ [(0, .ref 1), (1, .int a9), (2, .int t9)] _ _
  refine ga_aload_n 0 dX9_tower_0 rfl ?_
  refine ga_get kf_X9_19 (sh1 _) hcur dX9_tower_1 ?_
  refine ga_iload_n 1 dX9_tower_4 rfl ?_
  refine ga_V1 km_X9_190 kv_X0_hasTower (c_X0_hasTower hc hK.1.2.1 a9) (shC hc _) rfl rfl (gt_rc0 (by decide)) (Nat.le_of_ble_eq_true rfl) dX9_tower_5 ?_
  refine ga_if_ne 14 dX9_tower_8 (by decide) (fun c_8 => ?_) (fun c_8 => ?_)
  · obtain ⟨k, hk, rfl⟩ := gx_in_of (by have := kw.1; have := kw.2.1; have := kw.2.2.1; have := kw.2.2.2.1; omega) c_8
    have ek : (nI k).toNatClampNeg = k := nI_clamp (by have := kw.1; have := kw.2.1; have := kw.2.2.1; have := kw.2.2.2.1; omega)
    refine ga_iload_n 2 dX9_tower_14 rfl ?_
    rcases gx_sw t9 3 with sw_15 | ⟨v_15, hv_15, sw_15⟩
    · refine ga_tableOut 87 dX9_tower_15 (by simpa using sw_15) (by decide) ?_
      refine ga_ldc kc_X9_86 dX9_tower_87 ?_
      exact gd_iret dX9_tower_89 ⟨gv (by unfold aTower; rw [if_neg c_8, if_neg (gx_out sw_15 (by decide) (by decide)), if_neg (gx_out sw_15 (by decide) (by decide)), if_neg (gx_out sw_15 (by decide) (by decide)), if_neg (gx_out sw_15 (by decide) (by decide))]), hX, fun _ _ => rfl⟩
    rcases (show v_15 = 0 ∨ v_15 = 1 ∨ v_15 = 2 ∨ v_15 = 3 by omega) with rfl | rfl | rfl | rfl
    · refine ga_top (nI 0) (by rw [sw_15]) ?_
      refine ga_tableIn 44 dX9_tower_15 (by decide) (by decide) rfl (by decide) ?_
      refine ga_aload_n 0 dX9_tower_44 rfl ?_
      refine ga_get kf_X9_19 (sh1 _) hcur dX9_tower_45 ?_
      refine ga_get kf_X9_193 (shC hc _) rfl dX9_tower_48 ?_
      refine ga_iload_n 1 dX9_tower_51 rfl ?_
      refine gl_C2 hc hK kw hk dX9_tower_52 ?_
      exact gd_iret dX9_tower_53 ⟨gv (by rw [sw_15]; unfold aTower; rw [if_neg c_8, if_pos rfl, ek]), hX, fun _ _ => rfl⟩
    · refine ga_top (nI 1) (by rw [sw_15]) ?_
      refine ga_tableIn 54 dX9_tower_15 (by decide) (by decide) rfl (by decide) ?_
      refine ga_aload_n 0 dX9_tower_54 rfl ?_
      refine ga_get kf_X9_19 (sh1 _) hcur dX9_tower_55 ?_
      refine ga_get kf_X9_196 (shC hc _) rfl dX9_tower_58 ?_
      refine ga_iload_n 1 dX9_tower_61 rfl ?_
      refine gl_C3 hc hK kw hk dX9_tower_62 ?_
      exact gd_iret dX9_tower_63 ⟨gv (by rw [sw_15]; unfold aTower; rw [if_neg c_8, if_neg (by decide), if_pos rfl, ek]), hX, fun _ _ => rfl⟩
    · refine ga_top (nI 2) (by rw [sw_15]) ?_
      refine ga_tableIn 64 dX9_tower_15 (by decide) (by decide) rfl (by decide) ?_
      refine ga_aload_n 0 dX9_tower_64 rfl ?_
      refine ga_get kf_X9_29 (sh1 _) rfl dX9_tower_65 ?_
      refine ga_get kf_X9_199 (shS isS20 _) rfl dX9_tower_68 ?_
      refine ga_iload_n 1 dX9_tower_71 rfl ?_
      refine gl_S1 isS20 hV kw hk dX9_tower_72 ?_
      exact gd_iret dX9_tower_73 ⟨gv (by rw [sw_15]; unfold aTower; rw [if_neg c_8, if_neg (by decide), if_neg (by decide), if_pos rfl, ek]), hX, fun _ _ => rfl⟩
    · refine ga_top (nI 3) (by rw [sw_15]) ?_
      refine ga_tableIn 74 dX9_tower_15 (by decide) (by decide) rfl (by decide) ?_
      refine ga_aload_n 0 dX9_tower_74 rfl ?_
      refine ga_get kf_X9_29 (sh1 _) rfl dX9_tower_75 ?_
      refine ga_aload_n 0 dX9_tower_78 rfl ?_
      refine ga_get kf_X9_19 (sh1 _) hcur dX9_tower_79 ?_
      refine ga_iload_n 1 dX9_tower_82 rfl ?_
      refine ga_V2 km_X9_202 kv_X8_sitterAt (c_X8_sitterAt hc hK kw isS20 hV vw (by have := kw.2.1; omega)) (shS isS20 _) rfl rfl (gt_rc0 (by decide)) (Nat.le_of_ble_eq_true rfl) dX9_tower_83 ?_
      exact gd_iret dX9_tower_86 ⟨gv (by rw [sw_15]; unfold aTower; rw [if_neg c_8, if_neg (by decide), if_neg (by decide), if_neg (by decide), if_pos rfl, ek]), hX, fun _ _ => rfl⟩
  · refine ga_ldc kc_X9_175 dX9_tower_11 ?_
    exact gd_iret dX9_tower_13 ⟨gv (by unfold aTower; rw [if_pos c_8]), hX, fun _ _ => rfl⟩
