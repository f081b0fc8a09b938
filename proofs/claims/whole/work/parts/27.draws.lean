theorem wb_tb (n : Nat) : (lN n).toBitVec = BitVec.ofNat 64 n := rfl
theorem wb_inj {a b : Int64} (h : a.toBitVec = b.toBitVec) : a = b := Int64.toBitVec_inj.mp h
theorem wb_lt2 {a b : Nat} (h : a < b) : 2 ^ a < 2 ^ b := Nat.pow_lt_pow_right (by decide) h
theorem wb_and {a b : Nat} (ha : a < 2 ^ 64) (hb : b < 2 ^ 64) : lN a &&& lN b = lN (a &&& b) := by
  apply wb_inj
  rw [Int64.toBitVec_and, wb_tb, wb_tb, wb_tb]
  apply BitVec.eq_of_toNat_eq
  rw [BitVec.toNat_and, BitVec.toNat_ofNat, BitVec.toNat_ofNat, BitVec.toNat_ofNat, Nat.mod_eq_of_lt ha, Nat.mod_eq_of_lt hb, Nat.mod_eq_of_lt (Nat.and_lt_two_pow _ hb)]
theorem wb_mask {n k : Nat} (hn : n < 2 ^ 64) (hk : k < 64) : lN n &&& lN (2 ^ k - 1) = lN (n % 2 ^ k) := by
  rw [wb_and hn (by have := wb_lt2 hk; omega), Nat.and_two_pow_sub_one_eq_mod]
theorem gx_sw (x : Int32) (hi : Nat) : (x.toInt < 0 ∨ (hi : Int) < x.toInt) ∨ ∃ v, v ≤ hi ∧ x = nI v := by
  by_cases h : x < 0
  · exact Or.inl (Or.inl (by simpa using Int32.lt_iff_toInt_lt.mp h))
  · obtain ⟨j, hj, rfl⟩ := nI_of h
    by_cases q : j ≤ hi
    · exact Or.inr ⟨j, q, rfl⟩
    · exact Or.inl (Or.inr (by rw [nI_toInt hj]; omega))
/-- the next of the seeds; what is drawn of n by it -/
def gx_rnd (sd : Nat) : Nat := (sd * 1103515245 + 12345) % 2147483648
def gx_dr (sd n : Nat) : Nat := gx_rnd sd / 65536 % n
theorem gx_rnd_lt (sd : Nat) : gx_rnd sd < 2147483648 := Nat.mod_lt _ (by decide)
theorem gx_dr_lt (sd : Nat) {n : Nat} (h : 0 < n) : gx_dr sd n < n := Nat.mod_lt _ h
theorem gx_rndN {sd : Nat} (h : sd < 2147483648) : (((nI sd).toInt64 * 1103515245 + 12345) &&& 2147483647).toInt32 = nI (gx_rnd sd) := by
  rw [nI_l (by omega), show (1103515245 : Int64) = lN 1103515245 from rfl, show (12345 : Int64) = lN 12345 from rfl, show (2147483647 : Int64) = lN (2 ^ 31 - 1) from rfl, lN_mul, lN_add, wb_mask (by omega) (by decide), lN_i]
  rfl
theorem gx_first_none {P : Nat → Prop} [DecidablePred P] : ∀ k t, t + k < 2 ^ 30 → (gx_first P t k = -1 ↔ ∀ i, t ≤ i → i < t + k → ¬ P i)
  | 0, t, _ => ⟨fun _ i h1 h2 => by omega, fun _ => rfl⟩
  | k + 1, t, hb => by
    by_cases h : P t
    · have e : gx_first P t (k + 1) = nI t := if_pos h
      rw [e]
      refine ⟨fun q => ?_, fun q => absurd h (q t (Nat.le_refl _) (by omega))⟩
      have h1 : ¬ nI t < 0 := nI_pos (by omega)
      rw [q] at h1
      exact absurd (by decide) h1
    · have e : gx_first P t (k + 1) = gx_first P (t + 1) k := if_neg h
      rw [e, gx_first_none k (t + 1) (by omega)]
      refine ⟨fun q i h1 h2 => ?_, fun q i h1 h2 => q i (by omega) (by omega)⟩
      by_cases e : i = t
      · subst e; exact h
      · exact q i (by omega) (by omega)
/-- nobody sits at tower t -/
abbrev gx_free (K V : gx_K) (t : Nat) : Prop := ∀ i, i < K 0 2 → ¬ V 2 i = t + 1
theorem gx_first_free {K V : gx_K} (kw : gx_KW K) (t : Nat) : gx_first (fun p => V 2 p = t + 1) 0 (K 0 2) = -1 ↔ gx_free K V t := by
  rw [gx_first_none (K 0 2) 0 (by have := kw.2.2.1; omega)]
  exact ⟨fun q i h => q i (Nat.zero_le _) (by omega), fun q i _ h => q i (by omega)⟩
/-- the sitting down by a draw: the state, the seed -/
def gx_sit (K V : gx_K) (p sd : Nat) : gx_K × Nat := if K 0 1 = 0 then (V, sd) else (if gx_free K V (gx_dr sd (K 0 1)) then gx_up V 2 p (gx_dr sd (K 0 1) + 1) else V, gx_rnd sd)
/-- what is drawn ahead of an hour: the state, the sleepers, the seed -/
def gx_stir (K V : gx_K) (m : Int32) (sd : Nat) : gx_K × Int32 × Nat :=
  if K 0 2 = 0 then (V, m, sd)
  else if gx_dr (gx_rnd sd) 6 = 0 then (V, gx_slep m (nI (gx_dr sd (K 0 2))) (nI 1), gx_rnd (gx_rnd sd))
  else if gx_dr (gx_rnd sd) 6 = 1 then (V, gx_slep m (nI (gx_dr sd (K 0 2))) (nI 0), gx_rnd (gx_rnd sd))
  else if gx_dr (gx_rnd sd) 6 = 2 then (gx_up V 2 (gx_dr sd (K 0 2)) 0, m, gx_rnd (gx_rnd sd))
  else if gx_dr (gx_rnd sd) 6 = 3 then ((gx_sit K V (gx_dr sd (K 0 2)) (gx_rnd (gx_rnd sd))).1, m, (gx_sit K V (gx_dr sd (K 0 2)) (gx_rnd (gx_rnd sd))).2)
  else (V, m, gx_rnd (gx_rnd sd))
set_option maxRecDepth 100000 in
set_option maxHeartbeats 4000000 in
theorem c_X1_next {l : Launch} {G : gt_G} {n : Nat} {w : gt_W} {sd N : Nat} (hsd : w 113 0 = nI sd) (hs : sd < 2147483648) (h0 : 0 < N) (hN : N < 1000) : gt_D l G yX1_next cX1_next 2 (some .int) 1 n [.ref 113, .int (nI N)] w (fun r w' => r = some (.int (nI (gx_dr sd N))) ∧ (∀ a, a ≠ 113 → w' a = w a) ∧ w' 113 0 = nI (gx_rnd sd)) := by
  refine gt_D_of (own := RX1) (nm := "next") rfl rfl (by decide +kernel) (Nat.le_of_ble_eq_true rfl) ?_
  show gt_A _ _ _ _ _ _ _ _ _ _ _ [(0, .ref 113), (1, .int (nI N))] _ _
  refine ga_aload_n 0 dX1_next_0 rfl ?_
  refine ga_aload_n 0 dX1_next_1 rfl ?_
  refine ga_get kf_X1_9 (sh113 _) (gv hsd) dX1_next_2 ?_
  refine ga_i2l dX1_next_5 ?_
  refine ga_ldc2_w kc_X1_15 dX1_next_6 ?_
  refine ga_lmul dX1_next_9 ?_
  refine ga_ldc2_w kc_X1_17 dX1_next_10 ?_
  refine ga_ladd dX1_next_13 ?_
  refine ga_ldc2_w kc_X1_19 dX1_next_14 ?_
  refine ga_land dX1_next_17 ?_
  refine ga_l2i dX1_next_18 ?_
  refine ga_top (nI (gx_rnd sd)) (gx_rndN hs) ?_
  refine gw_put 0 kp_X1_9 (sh113 _) (sh113 _) rfl rfl (Nat.le_of_ble_eq_true rfl) dX1_next_19 (fun w_19 o_19 e_19 => ?_)
  refine ga_iload_n 1 dX1_next_22 rfl ?_
  refine ga_if_gt 30 dX1_next_23 (by decide) (fun c_23 => ?_) (fun c_23 => absurd (by rw [← nI_0]; exact nI_lt h0 (by omega)) c_23)
  refine ga_aload_n 0 dX1_next_30 rfl ?_
  refine ga_get kf_X1_9 (sh113 _) (gvv (nI (gx_rnd sd)) (by rw [e_19, upd_eq])) dX1_next_31 ?_
  refine ga_ldc kc_X1_21 dX1_next_34 ?_
  refine ga_idiv dX1_next_36 (by decide) ?_
  refine ga_top (nI (gx_rnd sd / 65536)) (pk_div (a := gx_rnd sd) (d := 65536) (by have := gx_rnd_lt sd; omega) (by decide) (by decide)) ?_
  refine ga_iload_n 1 dX1_next_37 rfl ?_
  refine ga_irem dX1_next_38 (nI_ne0 h0 (by omega)) ?_
  exact gd_iret dX1_next_39 ⟨by rw [pk_rem (by have := gx_rnd_lt sd; omega) h0 (by omega)]; rfl, o_19, by rw [e_19, upd_eq]⟩
set_option maxRecDepth 100000 in
set_option maxHeartbeats 4000000 in
theorem c_X1_sitByDraw {l : Launch} {G : gt_G} {n : Nat} {w : gt_W} {c : Nat} {K V : gx_K} {m : Int32} {sd p : Nat} (hc : gt_isC c) (hK : gx_Co w c K) (kw : gx_KW K) (hV : gx_St w 20 K V m) (vw : gx_VW K V) (hsd : w 113 0 = nI sd) (hs : sd < 2147483648) (hp : p < K 0 2) : gt_D l G yX1_sitByDraw cX1_sitByDraw 5 none 2 n [.ref 113, .ref c, .ref 20, .int (nI p)] w (fun r w' => r = none ∧ (∀ a, a ≠ 113 → (a < 20 ∨ 25 ≤ a) → w' a = w a) ∧ gx_St w' 20 K (gx_sit K V p sd).1 m ∧ w' 113 0 = nI (gx_sit K V p sd).2) := by
  refine gt_D_of (own := RX1) (nm := "sitByDraw") rfl rfl (by decide +kernel) (Nat.le_of_ble_eq_true rfl) ?_
  show gt_A _ _ _ _ _ _ _ _ _ _ _ [(0, .ref 113), (1, .ref c), (2, .ref 20), (3, .int (nI p))] _ _
  refine ga_aload_n 1 dX1_sitByDraw_0 rfl ?_
  refine ga_get kf_X1_45 (shC hc _) (gv hK.1.2.1) dX1_sitByDraw_1 ?_
  refine ga_if_ne 8 dX1_sitByDraw_4 (by decide) (fun c_4 => ?_) (fun c_4 => ?_)
  · have hz : ¬ K 0 1 = 0 := fun q => c_4 (by rw [q]; decide)
    refine ga_aload_n 0 dX1_sitByDraw_8 rfl ?_
    refine ga_aload_n 1 dX1_sitByDraw_9 rfl ?_
    refine ga_get kf_X1_45 (shC hc _) (gv hK.1.2.1) dX1_sitByDraw_10 ?_
    refine gd_V1 km_X1_27 kv_X1_next (c_X1_next hsd hs (Nat.pos_of_ne_zero hz) (by have := kw.2.1; omega)) (sh113 _) rfl rfl (gt_rc0 (by decide)) (Nat.le_of_ble_eq_true rfl) dX1_sitByDraw_13 (fun r_13 w_13 q_13 => ?_)
    obtain ⟨rfl, o13, e13⟩ := q_13
    have hK13 := gx_Co_eq hc (fun a ha => o13 a (by omega)) hK
    have hV13 := gx_St_eq (s := 20) (fun a h1 h2 => o13 a (by omega)) hV
    have hd13 := gx_dr_lt sd (Nat.pos_of_ne_zero hz)
    refine gs_istore [(0, _), (1, _), (2, _), (3, _), (4, _)] dX1_sitByDraw_16 (by decide) rfl rfl ?_
    refine ga_aload_n 2 dX1_sitByDraw_18 rfl ?_
    refine ga_aload_n 1 dX1_sitByDraw_19 rfl ?_
    refine ga_iload 4 dX1_sitByDraw_20 rfl ?_
    refine ga_V2 km_X1_48 kv_X8_sitterAt (c_X8_sitterAt hc hK13 kw isS20 hV13 vw (by have := kw.2.1; omega)) (shS isS20 _) rfl rfl (gt_rc0 (by decide)) (Nat.le_of_ble_eq_true rfl) dX1_sitByDraw_22 ?_
    refine ga_iconst ((-1)) dX1_sitByDraw_25 (by decide) ?_
    refine ga_icmp_ne 37 dX1_sitByDraw_26 (by decide) (fun c_26 => ?_) (fun c_26 => ?_)
    · first
      | exact gd_vret dX1_sitByDraw_37 ⟨rfl, fun a h1 h2 => by rw [o_36 a (by omega)]; exact o13 a h1, by unfold gx_sit; rw [if_neg hz, if_pos ((gx_first_free kw _).mp c_26)]; have h9 := gx_St_2 (j := p) (v := gx_dr sd (K 0 1) + 1) hV13; rw [gx_seat_s] at h9; exact gx_St_eq (fun a h1 h2 => by by_cases e : a = 22; (subst e; rw [e_36, gt_wr_eq]); (rw [o_36 a e, gt_wr_ne _ _ e])) h9, by unfold gx_sit; rw [if_neg hz, o_36 113 (by decide)]; exact e13⟩
      | exact gd_vret dX1_sitByDraw_37 ⟨rfl, fun a h1 h2 => o13 a h1, by unfold gx_sit; rw [if_neg hz, if_neg (fun q => c_26 ((gx_first_free kw _).mpr q))]; exact hV13, by unfold gx_sit; rw [if_neg hz]; exact e13⟩
    · refine ga_aload_n 2 dX1_sitByDraw_29 rfl ?_
      refine ga_get kf_X1_37 (shS isS20 _) rfl dX1_sitByDraw_30 ?_
      refine ga_iload_n 3 dX1_sitByDraw_33 rfl ?_
      refine ga_iload 4 dX1_sitByDraw_34 rfl ?_
      refine gw_iast (shS2 isS20) (gt_ixn (by have := kw.2.2.1; omega)) dX1_sitByDraw_36 (fun w_36 o_36 e_36 => ?_)
      first
      | exact gd_vret dX1_sitByDraw_37 ⟨rfl, fun a h1 h2 => by rw [o_36 a (by omega)]; exact o13 a h1, by unfold gx_sit; rw [if_neg hz, if_pos ((gx_first_free kw _).mp c_26)]; have h9 := gx_St_2 (j := p) (v := gx_dr sd (K 0 1) + 1) hV13; rw [gx_seat_s] at h9; exact gx_St_eq (fun a h1 h2 => by by_cases e : a = 22; (subst e; rw [e_36, gt_wr_eq]); (rw [o_36 a e, gt_wr_ne _ _ e])) h9, by unfold gx_sit; rw [if_neg hz, o_36 113 (by decide)]; exact e13⟩
      | exact gd_vret dX1_sitByDraw_37 ⟨rfl, fun a h1 h2 => o13 a h1, by unfold gx_sit; rw [if_neg hz, if_neg (fun q => c_26 ((gx_first_free kw _).mpr q))]; exact hV13, by unfold gx_sit; rw [if_neg hz]; exact e13⟩
  · have hz : K 0 1 = 0 := Decidable.byContradiction fun q => nI_ne0 (Nat.pos_of_ne_zero q) (by have := kw.2.1; omega) c_4
    exact gd_vret dX1_sitByDraw_7 ⟨rfl, fun _ _ _ => rfl, by unfold gx_sit; rw [if_pos hz]; exact hV, by unfold gx_sit; rw [if_pos hz]; exact hsd⟩
set_option maxRecDepth 100000 in
set_option maxHeartbeats 4000000 in
theorem c_X1_stir {l : Launch} {G : gt_G} {n : Nat} {w : gt_W} {c : Nat} {K V : gx_K} {m : Int32} {sd : Nat} (hc : gt_isC c) (hK : gx_Co w c K) (kw : gx_KW K) (hV : gx_St w 20 K V m) (vw : gx_VW K V) (hsd : w 113 0 = nI sd) (hs : sd < 2147483648) : gt_D l G yX1_stir cX1_stir 4 none 3 n [.ref 113, .ref c, .ref 20] w (fun r w' => r = none ∧ (∀ a, a ≠ 113 → (a < 20 ∨ 25 ≤ a) → w' a = w a) ∧ gx_St w' 20 K (gx_stir K V m sd).1 (gx_stir K V m sd).2.1 ∧ w' 113 0 = nI (gx_stir K V m sd).2.2) := by
  refine gt_D_of (own := RX1) (nm := "stir") rfl rfl (by decide +kernel) (Nat.le_of_ble_eq_true rfl) ?_
  show gt_A _ _ _ _ _ _ _ _ _ _ _ [(0, .ref 113), (1, .ref c), (2, .ref 20)] _ _
  refine ga_aload_n 1 dX1_stir_0 rfl ?_
  refine ga_get kf_X1_22 (shC hc _) (gv hK.1.2.2.1) dX1_stir_1 ?_
  refine ga_if_ne 8 dX1_stir_4 (by decide) (fun c_4 => ?_) (fun c_4 => ?_)
  · have hz : ¬ K 0 2 = 0 := fun q => c_4 (by rw [q]; decide)
    refine ga_aload_n 0 dX1_stir_8 rfl ?_
    refine ga_aload_n 1 dX1_stir_9 rfl ?_
    refine ga_get kf_X1_22 (shC hc _) (gv hK.1.2.2.1) dX1_stir_10 ?_
    refine gd_V1 km_X1_27 kv_X1_next (c_X1_next hsd hs (Nat.pos_of_ne_zero hz) (by have := kw.2.2.1; omega)) (sh113 _) rfl rfl (gt_rc0 (by decide)) (Nat.le_of_ble_eq_true rfl) dX1_stir_13 (fun r_13 w_13 q_13 => ?_)
    obtain ⟨rfl, o13, e13⟩ := q_13
    have hK := gx_Co_eq hc (fun a ha => o13 a (by omega)) hK
    have hV := gx_St_eq (s := 20) (fun a h1 h2 => o13 a (by omega)) hV
    have hd13 := gx_dr_lt sd (Nat.pos_of_ne_zero hz)
    refine gs_istore_n [(0, _), (1, _), (2, _), (3, _)] dX1_stir_16 (by decide) rfl rfl ?_
    refine ga_aload_n 0 dX1_stir_17 rfl ?_
    refine ga_bipush (nI 6) dX1_stir_18 (by decide) ?_
    refine gd_V1 km_X1_27 kv_X1_next (c_X1_next e13 (gx_rnd_lt sd) (N := 6) (by decide) (by decide)) (sh113 _) rfl rfl (gt_rc0 (by decide)) (Nat.le_of_ble_eq_true rfl) dX1_stir_20 (fun r_20 w_20 q_20 => ?_)
    obtain ⟨rfl, o20, e20⟩ := q_20
    have hK := gx_Co_eq hc (fun a ha => o20 a (by omega)) hK
    have hV := gx_St_eq (s := 20) (fun a h1 h2 => o20 a (by omega)) hV
    have hd20 := gx_dr_lt (gx_rnd sd) (n := 6) (by decide)
    rcases (show gx_dr (gx_rnd sd) 6 = 0 ∨ gx_dr (gx_rnd sd) 6 = 1 ∨ gx_dr (gx_rnd sd) 6 = 2 ∨ gx_dr (gx_rnd sd) 6 = 3 ∨ 3 < gx_dr (gx_rnd sd) 6 by omega) with sw_23 | sw_23 | sw_23 | sw_23 | sw_23
    · refine ga_top (nI 0) (by rw [sw_23]) ?_
      refine ga_tableIn 52 dX1_stir_23 (by decide) (by decide) rfl (by decide) ?_
      refine ga_aload_n 2 dX1_stir_52 rfl ?_
      refine ga_iload_n 3 dX1_stir_53 rfl ?_
      refine ga_iconst (nI 1) dX1_stir_54 (by decide) ?_
      refine ga_V2 km_X1_31 kv_X8_setAsleep (c_X8_setAsleep isS20 hV.2.1 (nI (gx_dr sd (K 0 2))) (nI 1)) (shS isS20 _) rfl rfl (gt_rc0 (by decide)) (Nat.le_of_ble_eq_true rfl) dX1_stir_55 ?_
      refine ga_goto 90 dX1_stir_58 (by decide) ?_
      refine gd_vret dX1_stir_90 ?_
      first
      | exact ⟨rfl, fun a h1 h2 => by rw [o84 a h1 h2, o20 a h1, o13 a h1], by unfold gx_stir; rw [if_neg hz, if_neg (by omega), if_neg (by omega), if_neg (by omega), if_pos sw_23]; exact hV84, by unfold gx_stir; rw [if_neg hz, if_neg (by omega), if_neg (by omega), if_neg (by omega), if_pos sw_23]; exact e84⟩
      | exact ⟨rfl, fun a h1 h2 => by rw [o_76 a (by omega), o20 a h1, o13 a h1], by unfold gx_stir; rw [if_neg hz, if_neg (by omega), if_neg (by omega), if_pos sw_23]; have h9 := gx_St_2 (j := gx_dr sd (K 0 2)) (v := 0) hV; rw [gx_seat_0] at h9; exact gx_St_eq (fun a h1 h2 => by by_cases e : a = 22; (subst e; rw [e_76, gt_wr_eq]); (rw [o_76 a e, gt_wr_ne _ _ e])) h9, by unfold gx_stir; rw [if_neg hz, if_neg (by omega), if_neg (by omega), if_pos sw_23, o_76 113 (by decide)]; exact e20⟩
      | exact ⟨rfl, fun a h1 h2 => by rw [gt_wr_ne _ _ (by omega), o20 a h1, o13 a h1], by unfold gx_stir; rw [if_neg hz, if_pos sw_23]; exact gx_St_m hV, by unfold gx_stir; rw [if_neg hz, if_pos sw_23, gt_wr_ne _ _ (by decide)]; exact e20⟩
      | exact ⟨rfl, fun a h1 h2 => by rw [gt_wr_ne _ _ (by omega), o20 a h1, o13 a h1], by unfold gx_stir; rw [if_neg hz, if_neg (by omega), if_pos sw_23]; exact gx_St_m hV, by unfold gx_stir; rw [if_neg hz, if_neg (by omega), if_pos sw_23, gt_wr_ne _ _ (by decide)]; exact e20⟩
      | exact ⟨rfl, fun a h1 h2 => by rw [o20 a h1, o13 a h1], by unfold gx_stir; rw [if_neg hz, if_neg (by omega), if_neg (by omega), if_neg (by omega), if_neg (by omega)]; exact hV, by unfold gx_stir; rw [if_neg hz, if_neg (by omega), if_neg (by omega), if_neg (by omega), if_neg (by omega)]; exact e20⟩
    · refine ga_top (nI 1) (by rw [sw_23]) ?_
      refine ga_tableIn 61 dX1_stir_23 (by decide) (by decide) rfl (by decide) ?_
      refine ga_aload_n 2 dX1_stir_61 rfl ?_
      refine ga_iload_n 3 dX1_stir_62 rfl ?_
      refine ga_iconst (nI 0) dX1_stir_63 (by decide) ?_
      refine ga_V2 km_X1_31 kv_X8_setAsleep (c_X8_setAsleep isS20 hV.2.1 (nI (gx_dr sd (K 0 2))) (nI 0)) (shS isS20 _) rfl rfl (gt_rc0 (by decide)) (Nat.le_of_ble_eq_true rfl) dX1_stir_64 ?_
      refine ga_goto 90 dX1_stir_67 (by decide) ?_
      refine gd_vret dX1_stir_90 ?_
      first
      | exact ⟨rfl, fun a h1 h2 => by rw [o84 a h1 h2, o20 a h1, o13 a h1], by unfold gx_stir; rw [if_neg hz, if_neg (by omega), if_neg (by omega), if_neg (by omega), if_pos sw_23]; exact hV84, by unfold gx_stir; rw [if_neg hz, if_neg (by omega), if_neg (by omega), if_neg (by omega), if_pos sw_23]; exact e84⟩
      | exact ⟨rfl, fun a h1 h2 => by rw [o_76 a (by omega), o20 a h1, o13 a h1], by unfold gx_stir; rw [if_neg hz, if_neg (by omega), if_neg (by omega), if_pos sw_23]; have h9 := gx_St_2 (j := gx_dr sd (K 0 2)) (v := 0) hV; rw [gx_seat_0] at h9; exact gx_St_eq (fun a h1 h2 => by by_cases e : a = 22; (subst e; rw [e_76, gt_wr_eq]); (rw [o_76 a e, gt_wr_ne _ _ e])) h9, by unfold gx_stir; rw [if_neg hz, if_neg (by omega), if_neg (by omega), if_pos sw_23, o_76 113 (by decide)]; exact e20⟩
      | exact ⟨rfl, fun a h1 h2 => by rw [gt_wr_ne _ _ (by omega), o20 a h1, o13 a h1], by unfold gx_stir; rw [if_neg hz, if_pos sw_23]; exact gx_St_m hV, by unfold gx_stir; rw [if_neg hz, if_pos sw_23, gt_wr_ne _ _ (by decide)]; exact e20⟩
      | exact ⟨rfl, fun a h1 h2 => by rw [gt_wr_ne _ _ (by omega), o20 a h1, o13 a h1], by unfold gx_stir; rw [if_neg hz, if_neg (by omega), if_pos sw_23]; exact gx_St_m hV, by unfold gx_stir; rw [if_neg hz, if_neg (by omega), if_pos sw_23, gt_wr_ne _ _ (by decide)]; exact e20⟩
      | exact ⟨rfl, fun a h1 h2 => by rw [o20 a h1, o13 a h1], by unfold gx_stir; rw [if_neg hz, if_neg (by omega), if_neg (by omega), if_neg (by omega), if_neg (by omega)]; exact hV, by unfold gx_stir; rw [if_neg hz, if_neg (by omega), if_neg (by omega), if_neg (by omega), if_neg (by omega)]; exact e20⟩
    · refine ga_top (nI 2) (by rw [sw_23]) ?_
      refine ga_tableIn 70 dX1_stir_23 (by decide) (by decide) rfl (by decide) ?_
      refine ga_aload_n 2 dX1_stir_70 rfl ?_
      refine ga_get kf_X1_37 (shS isS20 _) rfl dX1_stir_71 ?_
      refine ga_iload_n 3 dX1_stir_74 rfl ?_
      refine ga_iconst ((-1)) dX1_stir_75 (by decide) ?_
      refine gw_iast (shS2 isS20) (gt_ixn (by have := kw.2.2.1; omega)) dX1_stir_76 (fun w_76 o_76 e_76 => ?_)
      refine ga_goto 90 dX1_stir_77 (by decide) ?_
      refine gd_vret dX1_stir_90 ?_
      first
      | exact ⟨rfl, fun a h1 h2 => by rw [o84 a h1 h2, o20 a h1, o13 a h1], by unfold gx_stir; rw [if_neg hz, if_neg (by omega), if_neg (by omega), if_neg (by omega), if_pos sw_23]; exact hV84, by unfold gx_stir; rw [if_neg hz, if_neg (by omega), if_neg (by omega), if_neg (by omega), if_pos sw_23]; exact e84⟩
      | exact ⟨rfl, fun a h1 h2 => by rw [o_76 a (by omega), o20 a h1, o13 a h1], by unfold gx_stir; rw [if_neg hz, if_neg (by omega), if_neg (by omega), if_pos sw_23]; have h9 := gx_St_2 (j := gx_dr sd (K 0 2)) (v := 0) hV; rw [gx_seat_0] at h9; exact gx_St_eq (fun a h1 h2 => by by_cases e : a = 22; (subst e; rw [e_76, gt_wr_eq]); (rw [o_76 a e, gt_wr_ne _ _ e])) h9, by unfold gx_stir; rw [if_neg hz, if_neg (by omega), if_neg (by omega), if_pos sw_23, o_76 113 (by decide)]; exact e20⟩
      | exact ⟨rfl, fun a h1 h2 => by rw [gt_wr_ne _ _ (by omega), o20 a h1, o13 a h1], by unfold gx_stir; rw [if_neg hz, if_pos sw_23]; exact gx_St_m hV, by unfold gx_stir; rw [if_neg hz, if_pos sw_23, gt_wr_ne _ _ (by decide)]; exact e20⟩
      | exact ⟨rfl, fun a h1 h2 => by rw [gt_wr_ne _ _ (by omega), o20 a h1, o13 a h1], by unfold gx_stir; rw [if_neg hz, if_neg (by omega), if_pos sw_23]; exact gx_St_m hV, by unfold gx_stir; rw [if_neg hz, if_neg (by omega), if_pos sw_23, gt_wr_ne _ _ (by decide)]; exact e20⟩
      | exact ⟨rfl, fun a h1 h2 => by rw [o20 a h1, o13 a h1], by unfold gx_stir; rw [if_neg hz, if_neg (by omega), if_neg (by omega), if_neg (by omega), if_neg (by omega)]; exact hV, by unfold gx_stir; rw [if_neg hz, if_neg (by omega), if_neg (by omega), if_neg (by omega), if_neg (by omega)]; exact e20⟩
    · refine ga_top (nI 3) (by rw [sw_23]) ?_
      refine ga_tableIn 80 dX1_stir_23 (by decide) (by decide) rfl (by decide) ?_
      refine ga_aload_n 0 dX1_stir_80 rfl ?_
      refine ga_aload_n 1 dX1_stir_81 rfl ?_
      refine ga_aload_n 2 dX1_stir_82 rfl ?_
      refine ga_iload_n 3 dX1_stir_83 rfl ?_
      refine gd_V3 km_X1_41 kv_X1_sitByDraw (c_X1_sitByDraw hc hK kw hV vw e20 (gx_rnd_lt _) hd13) (sh113 _) rfl rfl (gt_rc0 (by decide)) (Nat.le_of_ble_eq_true rfl) dX1_stir_84 (fun r_84 w_84 q_84 => ?_)
      obtain ⟨rfl, o84, hV84, e84⟩ := q_84
      refine ga_goto 90 dX1_stir_87 (by decide) ?_
      refine gd_vret dX1_stir_90 ?_
      first
      | exact ⟨rfl, fun a h1 h2 => by rw [o84 a h1 h2, o20 a h1, o13 a h1], by unfold gx_stir; rw [if_neg hz, if_neg (by omega), if_neg (by omega), if_neg (by omega), if_pos sw_23]; exact hV84, by unfold gx_stir; rw [if_neg hz, if_neg (by omega), if_neg (by omega), if_neg (by omega), if_pos sw_23]; exact e84⟩
      | exact ⟨rfl, fun a h1 h2 => by rw [o_76 a (by omega), o20 a h1, o13 a h1], by unfold gx_stir; rw [if_neg hz, if_neg (by omega), if_neg (by omega), if_pos sw_23]; have h9 := gx_St_2 (j := gx_dr sd (K 0 2)) (v := 0) hV; rw [gx_seat_0] at h9; exact gx_St_eq (fun a h1 h2 => by by_cases e : a = 22; (subst e; rw [e_76, gt_wr_eq]); (rw [o_76 a e, gt_wr_ne _ _ e])) h9, by unfold gx_stir; rw [if_neg hz, if_neg (by omega), if_neg (by omega), if_pos sw_23, o_76 113 (by decide)]; exact e20⟩
      | exact ⟨rfl, fun a h1 h2 => by rw [gt_wr_ne _ _ (by omega), o20 a h1, o13 a h1], by unfold gx_stir; rw [if_neg hz, if_pos sw_23]; exact gx_St_m hV, by unfold gx_stir; rw [if_neg hz, if_pos sw_23, gt_wr_ne _ _ (by decide)]; exact e20⟩
      | exact ⟨rfl, fun a h1 h2 => by rw [gt_wr_ne _ _ (by omega), o20 a h1, o13 a h1], by unfold gx_stir; rw [if_neg hz, if_neg (by omega), if_pos sw_23]; exact gx_St_m hV, by unfold gx_stir; rw [if_neg hz, if_neg (by omega), if_pos sw_23, gt_wr_ne _ _ (by decide)]; exact e20⟩
      | exact ⟨rfl, fun a h1 h2 => by rw [o20 a h1, o13 a h1], by unfold gx_stir; rw [if_neg hz, if_neg (by omega), if_neg (by omega), if_neg (by omega), if_neg (by omega)]; exact hV, by unfold gx_stir; rw [if_neg hz, if_neg (by omega), if_neg (by omega), if_neg (by omega), if_neg (by omega)]; exact e20⟩
    · refine ga_tableOut 90 dX1_stir_23 (Or.inr (by rw [nI_toInt (by omega)]; omega)) (by decide) ?_
      refine gd_vret dX1_stir_90 ?_
      first
      | exact ⟨rfl, fun a h1 h2 => by rw [o84 a h1 h2, o20 a h1, o13 a h1], by unfold gx_stir; rw [if_neg hz, if_neg (by omega), if_neg (by omega), if_neg (by omega), if_pos sw_23]; exact hV84, by unfold gx_stir; rw [if_neg hz, if_neg (by omega), if_neg (by omega), if_neg (by omega), if_pos sw_23]; exact e84⟩
      | exact ⟨rfl, fun a h1 h2 => by rw [o_76 a (by omega), o20 a h1, o13 a h1], by unfold gx_stir; rw [if_neg hz, if_neg (by omega), if_neg (by omega), if_pos sw_23]; have h9 := gx_St_2 (j := gx_dr sd (K 0 2)) (v := 0) hV; rw [gx_seat_0] at h9; exact gx_St_eq (fun a h1 h2 => by by_cases e : a = 22; (subst e; rw [e_76, gt_wr_eq]); (rw [o_76 a e, gt_wr_ne _ _ e])) h9, by unfold gx_stir; rw [if_neg hz, if_neg (by omega), if_neg (by omega), if_pos sw_23, o_76 113 (by decide)]; exact e20⟩
      | exact ⟨rfl, fun a h1 h2 => by rw [gt_wr_ne _ _ (by omega), o20 a h1, o13 a h1], by unfold gx_stir; rw [if_neg hz, if_pos sw_23]; exact gx_St_m hV, by unfold gx_stir; rw [if_neg hz, if_pos sw_23, gt_wr_ne _ _ (by decide)]; exact e20⟩
      | exact ⟨rfl, fun a h1 h2 => by rw [gt_wr_ne _ _ (by omega), o20 a h1, o13 a h1], by unfold gx_stir; rw [if_neg hz, if_neg (by omega), if_pos sw_23]; exact gx_St_m hV, by unfold gx_stir; rw [if_neg hz, if_neg (by omega), if_pos sw_23, gt_wr_ne _ _ (by decide)]; exact e20⟩
      | exact ⟨rfl, fun a h1 h2 => by rw [o20 a h1, o13 a h1], by unfold gx_stir; rw [if_neg hz, if_neg (by omega), if_neg (by omega), if_neg (by omega), if_neg (by omega)]; exact hV, by unfold gx_stir; rw [if_neg hz, if_neg (by omega), if_neg (by omega), if_neg (by omega), if_neg (by omega)]; exact e20⟩
  · have hz : K 0 2 = 0 := Decidable.byContradiction fun q => nI_ne0 (Nat.pos_of_ne_zero q) (by have := kw.2.2.1; omega) c_4
    exact gd_vret dX1_stir_7 ⟨rfl, fun _ _ _ => rfl, by unfold gx_stir; rw [if_pos hz]; exact hV, by unfold gx_stir; rw [if_pos hz]; exact hsd⟩
