theorem gx_seat_of (x : Int32) : ∃ v, x = gx_seat v := by
  refine ⟨(x + 1).toBitVec.toNat, ?_⟩
  unfold gx_seat
  have h : nI (x + 1).toBitVec.toNat = x + 1 := Int32.toBitVec_inj.mp (by generalize x + 1 = y; show BitVec.ofNat 32 y.toBitVec.toNat = _; simp)
  rw [h]
  apply Int32.toBitVec_inj.mp
  simp [Int32.toBitVec_sub, Int32.toBitVec_add]
/-- the need: A ≤ gained + B -/
def gx_nA (K : gx_K) (k d : Nat) : Nat := if d = 0 then 0 else d + K 1 k
def gx_nB (K V : gx_K) (k d n : Nat) : Nat := if d = 0 then 0 else gx_rest K V k n
/-- what the search of plans of so many finds -/
def gx_sz (K V : gx_K) (m : Int32) (k d n : Nat) (b : Nat → Nat) (size : Nat) : gx_Sg := gx_sf (gx_g K V m k n) (K 4) (K 0 2) (K 0 1) (gx_nA K k d) (gx_nB K V k d n) (K 0 2) (fun _ => 0) size 0 0 (55, b)
theorem gx_rest_le {K V : gx_K} (kw : gx_KW K) (vw : gx_VW K V) (k n : Nat) : gx_rest K V k n ≤ 594 := by
  have h := gx_sum_le (f := fun t => gx_bears (gx_ld (V 1 t) n) (K 3 t) (K 2 t) k) (b := 99) (K 0 1) (fun t ht => by
    have h1 := vw.2.1 t ht
    have h2 := gx_bears_le (gx_ld (V 1 t) n) (K 3 t) (K 2 t) k
    have h3 : gx_ld (V 1 t) n ≤ V 1 t := Nat.sub_le _ _
    show gx_bears _ _ _ _ ≤ 99
    omega)
  have := kw.2.1
  have h2 : K 0 1 * 99 ≤ 6 * 99 := Nat.mul_le_mul_right 99 this
  exact Nat.le_trans h (by omega)
theorem gx_sf_keep {g : Nat → Nat → Nat} {ar : Nat → Nat} {P T A B : Nat} : ∀ j ρ left arms gained (σ : gx_Sg), (gx_sf g ar P T A B j ρ left arms gained σ).1 ≤ σ.1 ∧ ((gx_sf g ar P T A B j ρ left arms gained σ).1 = σ.1 → gx_sf g ar P T A B j ρ left arms gained σ = σ)
  | 0, ρ, left, arms, gained, σ => by
    unfold gx_sf
    split
    · rename_i q; exact ⟨Nat.le_of_lt q.2.1, fun h => by have h : arms = σ.1 := h; have := q.2.1; omega⟩
    · exact ⟨Nat.le_refl _, fun _ => rfl⟩
  | j + 1, ρ, left, arms, gained, σ => by
    unfold gx_sf
    split
    · split
      · rename_i q; exact ⟨Nat.le_of_lt q.1, fun h => by have h : arms = σ.1 := h; have := q.1; omega⟩
      · exact ⟨Nat.le_refl _, fun _ => rfl⟩
    · have hf := gx_fold_inv (I := fun s : gx_Sg => s.1 ≤ σ.1 ∧ (s.1 = σ.1 → s = σ)) (s := σ) (f := fun t σ => if gx_fr ρ (P - (j + 1)) t ∧ 0 < g (P - (j + 1)) t then gx_sf g ar P T A B j (gx_rs ρ (P - (j + 1)) (t + 1)) (left - 1) (arms + ar (P - (j + 1))) (gained + g (P - (j + 1)) t) σ else σ) ⟨Nat.le_refl _, fun _ => rfl⟩ T (fun t s _ hs => by
        show (if _ then _ else _ : gx_Sg).1 ≤ _ ∧ _
        split
        · have h1 := gx_sf_keep j (gx_rs ρ (P - (j + 1)) (t + 1)) (left - 1) (arms + ar (P - (j + 1))) (gained + g (P - (j + 1)) t) s (g := g) (ar := ar) (P := P) (T := T) (A := A) (B := B)
          refine ⟨Nat.le_trans h1.1 hs.1, fun h => ?_⟩
          have h2 := h1.2 (by have := h1.1; have := hs.1; omega)
          rw [h2] at h ⊢
          exact hs.2 h
        · exact hs)
      have h1 := gx_sf_keep j (gx_rs ρ (P - (j + 1)) 0) left arms gained (gx_fold (fun t σ => if gx_fr ρ (P - (j + 1)) t ∧ 0 < g (P - (j + 1)) t then gx_sf g ar P T A B j (gx_rs ρ (P - (j + 1)) (t + 1)) (left - 1) (arms + ar (P - (j + 1))) (gained + g (P - (j + 1)) t) σ else σ) T σ) (g := g) (ar := ar) (P := P) (T := T) (A := A) (B := B)
      refine ⟨Nat.le_trans h1.1 hf.1, fun h => ?_⟩
      have h2 := h1.2 (by have := h1.1; have := hf.1; omega)
      rw [h2] at h ⊢
      exact hf.2 h
set_option maxRecDepth 100000 in
set_option maxHeartbeats 4000000 in
theorem c_X5_search {l : Launch} {G : gt_G} {n : Nat} {w : gt_W} {c : Nat} {K V : gx_K} {m : Int32} {k9 d9 n9 : Nat} (hc : gt_isC c) (hK : gx_Co w c K) (kw : gx_KW K) (hV : gx_St w 20 K V m) (vw : gx_VW K V) (hk : k9 < K 0 0) (hd9 : d9 ≤ 99) (hn : n9 ≤ 20) : gt_D l G yX5_search cX5_search 8 (some .int) 10 n [.ref 123, .ref c, .ref 20, .int (nI k9), .int (nI d9), .int (nI n9)] w (fun r w' => (∀ a, (a < 123 ∨ 141 ≤ a) → w' a = w a) ∧ ∃ b9 : Nat → Nat, (r = some (.int (-1)) ∧ ∀ s, s ≤ min (K 0 2) (K 0 1) → (gx_sz K V m k9 d9 n9 b9 s).1 = 55) ∨ ∃ s, s ≤ min (K 0 2) (K 0 1) ∧ (∀ s', s' < s → (gx_sz K V m k9 d9 n9 b9 s').1 = 55) ∧ ¬ (gx_sz K V m k9 d9 n9 b9 s).1 = 55 ∧ r = some (.int (nI s)) ∧ ∀ q, q < 6 → w' 124 q = gx_seat ((gx_sz K V m k9 d9 n9 b9 s).2 q)) := by
  refine gt_D_of (own := RX5) (nm := "search") rfl rfl (by decide +kernel) (Nat.le_of_ble_eq_true rfl) ?_
  show gt_A _ _ _ _ _ _ _ _ _ _ _ [(0, .ref 123), (1, .ref c), (2, .ref 20), (3, .int (nI k9)), (4, .int (nI d9)), (5, .int (nI n9))] _ _
  refine ga_aload_n 0 dX5_search_0 rfl ?_
  refine ga_iload 4 dX5_search_1 rfl ?_
  refine ga_if_ne 10 dX5_search_3 (by decide) (fun c_3 => ?_) (fun c_3 => ?_)
  · have hz : ¬ d9 = 0 := fun q => c_3 (by rw [q]; decide)
    refine ga_iload 4 dX5_search_10 rfl ?_
    refine ga_aload_n 1 dX5_search_12 rfl ?_
    refine ga_get kf_X5_26 (shC hc _) rfl dX5_search_13 ?_
    refine ga_iload_n 3 dX5_search_16 rfl ?_
    refine gl_C1 hc hK kw hk dX5_search_17 ?_
    refine ga_iadd dX5_search_18 ?_
    refine ga_aload_n 0 dX5_search_19 rfl ?_
    refine ga_aload_n 1 dX5_search_20 rfl ?_
    refine ga_aload_n 2 dX5_search_21 rfl ?_
    refine ga_iload_n 3 dX5_search_22 rfl ?_
    refine ga_iload 5 dX5_search_23 rfl ?_
    refine ga_V4 km_X5_31 kv_X5_seaIfAllRest (c_X5_seaIfAllRest hc hK kw hV vw (by have := kw.1; omega) hn) (sh123 _) rfl rfl (gt_rc0 (by decide)) (Nat.le_of_ble_eq_true rfl) dX5_search_25 ?_
    refine ga_isub dX5_search_28 ?_
    refine ga_top (nI (gx_nA K k9 d9) - nI (gx_nB K V k9 d9 n9)) (by unfold gx_nA gx_nB; first | (rw [if_pos hz, if_pos hz]; decide) | (rw [if_neg hz, if_neg hz, nI_add])) ?_
    refine gw_put 5 kp_X5_35 (sh123 _) (sh123 _) rfl rfl (Nat.le_of_ble_eq_true rfl) dX5_search_29 (fun w_29 o_29 e_29 => ?_)
    refine ga_aload_n 0 dX5_search_32 rfl ?_
    refine ga_aload_n 1 dX5_search_33 rfl ?_
    refine ga_aload_n 2 dX5_search_34 rfl ?_
    refine ga_iload_n 3 dX5_search_35 rfl ?_
    refine ga_iload 5 dX5_search_36 rfl ?_
    refine gd_V4 km_X5_39 kv_X5_noteGains (c_X5_noteGains hc (gx_Co_eq hc (fun a ha => o_29 a (by omega)) hK) kw (gx_St_eq (fun a h1 h2 => o_29 a (by omega)) hV) vw (by have := kw.1; omega) hn) (sh123 _) rfl rfl (gt_rc0 (by decide)) (Nat.le_of_ble_eq_true rfl) dX5_search_38 (fun r_38 w_38 q_38 => ?_)
    obtain ⟨rfl, o38, hG⟩ := q_38
    refine ga_aload_n 0 dX5_search_41 rfl ?_
    refine ga_bipush (nI 55) dX5_search_42 (by decide) ?_
    refine gw_put 4 kp_X5_43 (sh123 _) (sh123 _) rfl rfl (Nat.le_of_ble_eq_true rfl) dX5_search_44 (fun w_44 o_44 e_44 => ?_)
    refine ga_aload_n 1 dX5_search_47 rfl ?_
    refine ga_get kf_X5_46 (shC hc _) (gvv (nI (K 0 2)) (by have hl := gt_isC_lt hc; rw [o_44 c (by omega), o38 c (by omega) (by omega), o_29 c (by omega)]; exact hK.1.2.2.1)) dX5_search_48 ?_
    refine ga_aload_n 1 dX5_search_51 rfl ?_
    refine ga_get kf_X5_49 (shC hc _) (gvv (nI (K 0 1)) (by have hl := gt_isC_lt hc; rw [o_44 c (by omega), o38 c (by omega) (by omega), o_29 c (by omega)]; exact hK.1.2.1)) dX5_search_52 ?_
    refine ga_min km_X5_52 kmath_min (gt_room0 (by decide)) (Nat.le_of_ble_eq_true rfl) dX5_search_55 ?_
    refine ga_top _ (gx_minN (by have := kw.2.2.1; omega) (by have := kw.2.1; omega)) ?_
    refine gs_istore [(0, _), (1, _), (2, _), (3, _), (4, _), (5, _), (6, _)] dX5_search_58 (by decide) rfl rfl ?_
    refine ga_iconst (nI 0) dX5_search_60 (by decide) ?_
    refine gs_istore [(0, _), (1, _), (2, _), (3, _), (4, _), (5, _), (6, _), (7, _)] dX5_search_61 (by decide) rfl rfl ?_
    obtain ⟨b9, hb9⟩ : ∃ b9 : Nat → Nat, ∀ q, w_44 124 q = gx_seat (b9 q) := ⟨fun q => (gx_seat_of (w_44 124 q)).choose, fun q => (gx_seat_of (w_44 124 q)).choose_spec⟩
    have hA9 : gx_nA K k9 d9 < 2 ^ 20 := by have := kw.2.2.2.2.1 k9 hk; unfold gx_nA; split <;> omega
    have hB9 : gx_nB K V k9 d9 n9 < 2 ^ 20 := by have := gx_rest_le kw vw k9 n9; unfold gx_nB; split <;> omega
    have hP6 := kw.2.2.1
    have hT6 := kw.2.1
    have loop : ∀ k t, t + k = min (K 0 2) (K 0 1) + 1 → ∀ w2 : gt_W, gx_Co w2 c K → (∀ a, (a < 123 ∨ 141 ≤ a) → w2 a = w a) → gx_PS w2 K V m k9 n9 (gx_nA K k9 d9) (gx_nB K V k9 d9 n9) (55, b9) → (∀ s, s < t → (gx_sz K V m k9 d9 n9 b9 s).1 = 55) → gt_A l G RX5 "search" cX5_search 8 (some .int) (gt_rm 10 0 0) (gt_ZD G n (fun r w' => (∀ a, (a < 123 ∨ 141 ≤ a) → w' a = w a) ∧ ∃ b9 : Nat → Nat, (r = some (.int (-1)) ∧ ∀ s, s ≤ min (K 0 2) (K 0 1) → (gx_sz K V m k9 d9 n9 b9 s).1 = 55) ∨ ∃ s, s ≤ min (K 0 2) (K 0 1) ∧ (∀ s', s' < s → (gx_sz K V m k9 d9 n9 b9 s').1 = 55) ∧ ¬ (gx_sz K V m k9 d9 n9 b9 s).1 = 55 ∧ r = some (.int (nI s)) ∧ ∀ q, q < 6 → w' 124 q = gx_seat ((gx_sz K V m k9 d9 n9 b9 s).2 q))) (n, 0, 0) 63 [(0, .ref 123), (1, .ref c), (2, .ref 20), (3, .int (nI k9)), (4, .int (nI d9)), (5, .int (nI n9)), (6, .int (nI (min (K 0 2) (K 0 1)))), (7, .int (nI t))] [] (gt_enc w2) := by
      intro k
      induction k with
      | zero =>
        intro t ht w2 hK hF hS hno
        have et : t = min (K 0 2) (K 0 1) + 1 := by omega
        refine ga_iload 7 dX5_search_63 rfl ?_
        refine ga_iload 6 dX5_search_65 rfl ?_
        refine ga_icmp_gt 99 dX5_search_67 (by decide) (fun c_67 => ?_) (fun c_67 => absurd (nI_lt (by omega) (by omega)) c_67)
        refine ga_iconst ((-1)) dX5_search_99 (by decide) ?_
        exact gd_iret dX5_search_100 ⟨hF, b9, Or.inl ⟨rfl, fun s hs => hno s (by omega)⟩⟩
      | succ k ih =>
        intro t ht w2 hK hF hS hno
        refine ga_iload 7 dX5_search_63 rfl ?_
        refine ga_iload 6 dX5_search_65 rfl ?_
        refine ga_icmp_gt 99 dX5_search_67 (by decide) (fun c_67 => absurd c_67 (nI_nlt (by omega) (by omega))) (fun c_67 => ?_)
        refine ga_aload_n 0 dX5_search_70 rfl ?_
        refine ga_aload_n 1 dX5_search_71 rfl ?_
        refine ga_iconst (nI 0) dX5_search_72 (by decide) ?_
        refine ga_iconst (nI 0) dX5_search_73 (by decide) ?_
        refine ga_iload 7 dX5_search_74 rfl ?_
        refine ga_iconst (nI 0) dX5_search_76 (by decide) ?_
        refine ga_iconst (nI 0) dX5_search_77 (by decide) ?_
        refine gd_S7 km_X5_58 kv_X5_seatFrom (by have h7 := c_X5_seatFrom (l := l) (G := G) (n := n) (m := m) (V := V) (k9 := k9) (n9 := n9) hc kw vw hA9 hB9 (K 0 2) (Nat.le_refl _) (fun _ => 0) t 0 0 (nI 0) (55, b9) w2 (by omega) (by omega) (by omega) (show 55 < 2 ^ 31 by decide) hK hS (fun q hq => by omega) (fun u hu => by rw [Nat.sub_self, gx_bit0 _ (by omega)]; exact ⟨fun _ q hq => by omega, fun _ => by rw [show (nI 0).toBitVec = 0#32 from rfl]; simp⟩); rw [Nat.sub_self] at h7; exact h7) (gt_rc0 (by omega)) (Nat.le_of_ble_eq_true rfl) dX5_search_78 (fun r_78 w_78 q_78 => ?_)
        obtain ⟨rfl, o78, hS78, -⟩ := q_78
        refine ga_aload_n 0 dX5_search_81 rfl ?_
        refine ga_get kf_X5_43 (sh123 _) (gv hS78.2.2.1) dX5_search_82 ?_
        refine ga_bipush (nI 55) dX5_search_85 (by decide) ?_
        refine ga_icmp_eq 93 dX5_search_87 (by decide) (fun c_87 => ?_) (fun c_87 => ?_)
        · refine gs_iincN 7 1 [(0, _), (1, _), (2, _), (3, _), (4, _), (5, _), (6, _), (7, _)] dX5_search_93 rfl (by decide) (by decide) rfl rfl ?_
          refine ga_goto 63 dX5_search_96 (by decide) ?_
          have hlt9 : (gx_sz K V m k9 d9 n9 b9 t).1 < 2 ^ 31 := gx_sf_lt _ _ _ _ _ _ (show 55 < 2 ^ 31 by decide)
          have e87 : (gx_sz K V m k9 d9 n9 b9 t).1 = 55 := (nI_eq hlt9 (by decide)).mp c_87
          have e88 : gx_sz K V m k9 d9 n9 b9 t = (55, b9) := (gx_sf_keep _ _ _ _ _ _).2 e87
          refine ih (t + 1) (by omega) _ (gx_Co_eq hc (fun a ha => o78 a (by omega) (by omega) (by omega)) hK) (fun a ha => by rw [o78 a (by omega) (by omega) (by omega)]; exact hF a ha) (by rw [← e88]; exact hS78) (fun s hs => ?_)
          by_cases e : s = t
          · rw [e]; exact e87
          · exact hno s (by omega)
        · refine ga_iload 7 dX5_search_90 rfl ?_
          exact gd_iret dX5_search_92 ⟨fun a ha => by rw [o78 a (by omega) (by omega) (by omega)]; exact hF a ha, b9, Or.inr ⟨t, by omega, hno, fun q => c_87 (by show nI (gx_sz K V m k9 d9 n9 b9 t).1 = _; rw [q]), rfl, hS78.2.2.2⟩⟩
    exact loop (min (K 0 2) (K 0 1) + 1) 0 (by omega) _ (gx_Co_eq hc (fun a ha => by rw [o_44 a (by omega), o38 a (by omega) (by omega), o_29 a (by omega)]) hK) (fun a ha => by rw [o_44 a (by omega), o38 a (by omega) (by omega), o_29 a (by omega)]) ⟨gx_Gn_eq kw (fun a h1 h2 => o_44 a (by omega)) hG, by rw [e_44, upd_ne _ _ (by decide), o38 123 (by decide) (by decide), e_29, upd_eq], by rw [e_44, upd_eq], fun q _ => hb9 q⟩ (fun s hs => by omega)
  · have hz : d9 = 0 := Decidable.byContradiction fun q => nI_ne0 (Nat.pos_of_ne_zero q) (by omega) c_3
    refine ga_iconst (nI 0) dX5_search_6 (by decide) ?_
    refine ga_goto 29 dX5_search_7 (by decide) ?_
    refine ga_top (nI (gx_nA K k9 d9) - nI (gx_nB K V k9 d9 n9)) (by unfold gx_nA gx_nB; first | (rw [if_pos hz, if_pos hz]; decide) | (rw [if_neg hz, if_neg hz, nI_add])) ?_
    refine gw_put 5 kp_X5_35 (sh123 _) (sh123 _) rfl rfl (Nat.le_of_ble_eq_true rfl) dX5_search_29 (fun w_29 o_29 e_29 => ?_)
    refine ga_aload_n 0 dX5_search_32 rfl ?_
    refine ga_aload_n 1 dX5_search_33 rfl ?_
    refine ga_aload_n 2 dX5_search_34 rfl ?_
    refine ga_iload_n 3 dX5_search_35 rfl ?_
    refine ga_iload 5 dX5_search_36 rfl ?_
    refine gd_V4 km_X5_39 kv_X5_noteGains (c_X5_noteGains hc (gx_Co_eq hc (fun a ha => o_29 a (by omega)) hK) kw (gx_St_eq (fun a h1 h2 => o_29 a (by omega)) hV) vw (by have := kw.1; omega) hn) (sh123 _) rfl rfl (gt_rc0 (by decide)) (Nat.le_of_ble_eq_true rfl) dX5_search_38 (fun r_38 w_38 q_38 => ?_)
    obtain ⟨rfl, o38, hG⟩ := q_38
    refine ga_aload_n 0 dX5_search_41 rfl ?_
    refine ga_bipush (nI 55) dX5_search_42 (by decide) ?_
    refine gw_put 4 kp_X5_43 (sh123 _) (sh123 _) rfl rfl (Nat.le_of_ble_eq_true rfl) dX5_search_44 (fun w_44 o_44 e_44 => ?_)
    refine ga_aload_n 1 dX5_search_47 rfl ?_
    refine ga_get kf_X5_46 (shC hc _) (gvv (nI (K 0 2)) (by have hl := gt_isC_lt hc; rw [o_44 c (by omega), o38 c (by omega) (by omega), o_29 c (by omega)]; exact hK.1.2.2.1)) dX5_search_48 ?_
    refine ga_aload_n 1 dX5_search_51 rfl ?_
    refine ga_get kf_X5_49 (shC hc _) (gvv (nI (K 0 1)) (by have hl := gt_isC_lt hc; rw [o_44 c (by omega), o38 c (by omega) (by omega), o_29 c (by omega)]; exact hK.1.2.1)) dX5_search_52 ?_
    refine ga_min km_X5_52 kmath_min (gt_room0 (by decide)) (Nat.le_of_ble_eq_true rfl) dX5_search_55 ?_
    refine ga_top _ (gx_minN (by have := kw.2.2.1; omega) (by have := kw.2.1; omega)) ?_
    refine gs_istore [(0, _), (1, _), (2, _), (3, _), (4, _), (5, _), (6, _)] dX5_search_58 (by decide) rfl rfl ?_
    refine ga_iconst (nI 0) dX5_search_60 (by decide) ?_
    refine gs_istore [(0, _), (1, _), (2, _), (3, _), (4, _), (5, _), (6, _), (7, _)] dX5_search_61 (by decide) rfl rfl ?_
    obtain ⟨b9, hb9⟩ : ∃ b9 : Nat → Nat, ∀ q, w_44 124 q = gx_seat (b9 q) := ⟨fun q => (gx_seat_of (w_44 124 q)).choose, fun q => (gx_seat_of (w_44 124 q)).choose_spec⟩
    have hA9 : gx_nA K k9 d9 < 2 ^ 20 := by have := kw.2.2.2.2.1 k9 hk; unfold gx_nA; split <;> omega
    have hB9 : gx_nB K V k9 d9 n9 < 2 ^ 20 := by have := gx_rest_le kw vw k9 n9; unfold gx_nB; split <;> omega
    have hP6 := kw.2.2.1
    have hT6 := kw.2.1
    have loop : ∀ k t, t + k = min (K 0 2) (K 0 1) + 1 → ∀ w2 : gt_W, gx_Co w2 c K → (∀ a, (a < 123 ∨ 141 ≤ a) → w2 a = w a) → gx_PS w2 K V m k9 n9 (gx_nA K k9 d9) (gx_nB K V k9 d9 n9) (55, b9) → (∀ s, s < t → (gx_sz K V m k9 d9 n9 b9 s).1 = 55) → gt_A l G RX5 "search" cX5_search 8 (some .int) (gt_rm 10 0 0) (gt_ZD G n (fun r w' => (∀ a, (a < 123 ∨ 141 ≤ a) → w' a = w a) ∧ ∃ b9 : Nat → Nat, (r = some (.int (-1)) ∧ ∀ s, s ≤ min (K 0 2) (K 0 1) → (gx_sz K V m k9 d9 n9 b9 s).1 = 55) ∨ ∃ s, s ≤ min (K 0 2) (K 0 1) ∧ (∀ s', s' < s → (gx_sz K V m k9 d9 n9 b9 s').1 = 55) ∧ ¬ (gx_sz K V m k9 d9 n9 b9 s).1 = 55 ∧ r = some (.int (nI s)) ∧ ∀ q, q < 6 → w' 124 q = gx_seat ((gx_sz K V m k9 d9 n9 b9 s).2 q))) (n, 0, 0) 63 [(0, .ref 123), (1, .ref c), (2, .ref 20), (3, .int (nI k9)), (4, .int (nI d9)), (5, .int (nI n9)), (6, .int (nI (min (K 0 2) (K 0 1)))), (7, .int (nI t))] [] (gt_enc w2) := by
      intro k
      induction k with
      | zero =>
        intro t ht w2 hK hF hS hno
        have et : t = min (K 0 2) (K 0 1) + 1 := by omega
        refine ga_iload 7 dX5_search_63 rfl ?_
        refine ga_iload 6 dX5_search_65 rfl ?_
        refine ga_icmp_gt 99 dX5_search_67 (by decide) (fun c_67 => ?_) (fun c_67 => absurd (nI_lt (by omega) (by omega)) c_67)
        refine ga_iconst ((-1)) dX5_search_99 (by decide) ?_
        exact gd_iret dX5_search_100 ⟨hF, b9, Or.inl ⟨rfl, fun s hs => hno s (by omega)⟩⟩
      | succ k ih =>
        intro t ht w2 hK hF hS hno
        refine ga_iload 7 dX5_search_63 rfl ?_
        refine ga_iload 6 dX5_search_65 rfl ?_
        refine ga_icmp_gt 99 dX5_search_67 (by decide) (fun c_67 => absurd c_67 (nI_nlt (by omega) (by omega))) (fun c_67 => ?_)
        refine ga_aload_n 0 dX5_search_70 rfl ?_
        refine ga_aload_n 1 dX5_search_71 rfl ?_
        refine ga_iconst (nI 0) dX5_search_72 (by decide) ?_
        refine ga_iconst (nI 0) dX5_search_73 (by decide) ?_
        refine ga_iload 7 dX5_search_74 rfl ?_
        refine ga_iconst (nI 0) dX5_search_76 (by decide) ?_
        refine ga_iconst (nI 0) dX5_search_77 (by decide) ?_
        refine gd_S7 km_X5_58 kv_X5_seatFrom (by have h7 := c_X5_seatFrom (l := l) (G := G) (n := n) (m := m) (V := V) (k9 := k9) (n9 := n9) hc kw vw hA9 hB9 (K 0 2) (Nat.le_refl _) (fun _ => 0) t 0 0 (nI 0) (55, b9) w2 (by omega) (by omega) (by omega) (show 55 < 2 ^ 31 by decide) hK hS (fun q hq => by omega) (fun u hu => by rw [Nat.sub_self, gx_bit0 _ (by omega)]; exact ⟨fun _ q hq => by omega, fun _ => by rw [show (nI 0).toBitVec = 0#32 from rfl]; simp⟩); rw [Nat.sub_self] at h7; exact h7) (gt_rc0 (by omega)) (Nat.le_of_ble_eq_true rfl) dX5_search_78 (fun r_78 w_78 q_78 => ?_)
        obtain ⟨rfl, o78, hS78, -⟩ := q_78
        refine ga_aload_n 0 dX5_search_81 rfl ?_
        refine ga_get kf_X5_43 (sh123 _) (gv hS78.2.2.1) dX5_search_82 ?_
        refine ga_bipush (nI 55) dX5_search_85 (by decide) ?_
        refine ga_icmp_eq 93 dX5_search_87 (by decide) (fun c_87 => ?_) (fun c_87 => ?_)
        · refine gs_iincN 7 1 [(0, _), (1, _), (2, _), (3, _), (4, _), (5, _), (6, _), (7, _)] dX5_search_93 rfl (by decide) (by decide) rfl rfl ?_
          refine ga_goto 63 dX5_search_96 (by decide) ?_
          have hlt9 : (gx_sz K V m k9 d9 n9 b9 t).1 < 2 ^ 31 := gx_sf_lt _ _ _ _ _ _ (show 55 < 2 ^ 31 by decide)
          have e87 : (gx_sz K V m k9 d9 n9 b9 t).1 = 55 := (nI_eq hlt9 (by decide)).mp c_87
          have e88 : gx_sz K V m k9 d9 n9 b9 t = (55, b9) := (gx_sf_keep _ _ _ _ _ _).2 e87
          refine ih (t + 1) (by omega) _ (gx_Co_eq hc (fun a ha => o78 a (by omega) (by omega) (by omega)) hK) (fun a ha => by rw [o78 a (by omega) (by omega) (by omega)]; exact hF a ha) (by rw [← e88]; exact hS78) (fun s hs => ?_)
          by_cases e : s = t
          · rw [e]; exact e87
          · exact hno s (by omega)
        · refine ga_iload 7 dX5_search_90 rfl ?_
          exact gd_iret dX5_search_92 ⟨fun a ha => by rw [o78 a (by omega) (by omega) (by omega)]; exact hF a ha, b9, Or.inr ⟨t, by omega, hno, fun q => c_87 (by show nI (gx_sz K V m k9 d9 n9 b9 t).1 = _; rw [q]), rfl, hS78.2.2.2⟩⟩
    exact loop (min (K 0 2) (K 0 1) + 1) 0 (by omega) _ (gx_Co_eq hc (fun a ha => by rw [o_44 a (by omega), o38 a (by omega) (by omega), o_29 a (by omega)]) hK) (fun a ha => by rw [o_44 a (by omega), o38 a (by omega) (by omega), o_29 a (by omega)]) ⟨gx_Gn_eq kw (fun a h1 h2 => o_44 a (by omega)) hG, by rw [e_44, upd_ne _ _ (by decide), o38 123 (by decide) (by decide), e_29, upd_eq], by rw [e_44, upd_eq], fun q _ => hb9 q⟩ (fun s hs => by omega)
