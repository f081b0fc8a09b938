/-! WHAT A STATE OF THE REFERENCE IS -/
def gx_mn (w : gt_W) (Q : gx_K) : Prop := (w 161 13 = nI (Q 0 0) ∧ w 161 15 = nI (Q 0 1) ∧ w 161 17 = nI (Q 0 2)) ∧ (∀ j, j < Q 0 0 → w 170 (3 * j) = nI (Q 1 j) ∧ w 170 (3 * j + 1) = nI (Q 2 j) ∧ w 170 (3 * j + 2) = nI (Q 3 j)) ∧ (∀ j, j < Q 0 1 → w 171 (3 * j) = nI (Q 4 j) ∧ w 171 (3 * j + 1) = nI (Q 5 j) ∧ w 171 (3 * j + 2) = nI (Q 6 j)) ∧ (∀ j, j < Q 0 2 → w 172 (2 * j) = nI (Q 7 j) ∧ w 172 (2 * j + 1) = nI (Q 8 j))
def gx_M (w : gt_W) (K V : gx_K) (m : Int32) (hs : Nat → gx_K × Int32) (cnt : Nat) (im : Nat → Nat × (gx_K × Int32) × Nat) (sd : Nat) (x : Nat → Nat) (L fp : Nat) (Q : gx_K) : Prop :=
  gx_mc (w 162) K ∧ gx_ms (w 164) K V m ∧ (w 161 5 = nI cnt ∧ ∀ k, k < cnt → gx_ms (fun i => w 166 (24 * k + i)) K (hs k).1 (hs k).2) ∧ (∀ i, i < 2 → w 167 (25 * i + 24) = nI (im i).2.2 ∧ w 168 i = nI (im i).1 ∧ ((im i).1 = 1 → gx_ms (fun j => w 167 (25 * i + j)) K (im i).2.1.1 (im i).2.1.2)) ∧ w 161 8 = nI sd ∧ (w 161 10 = nI L ∧ ∀ j, j < L → w 169 j = nI (x j)) ∧ w 161 11 = gx_seat fp ∧ gx_mn w Q
def gx_MZ (w : gt_W) (S : gx_Z) : Prop := gx_M w S.1 S.2.1.1 S.2.1.2 S.2.2.1 S.2.2.2.1 S.2.2.2.2.1 S.2.2.2.2.2.1 S.2.2.2.2.2.2.1 S.2.2.2.2.2.2.2.1 S.2.2.2.2.2.2.2.2.1 S.2.2.2.2.2.2.2.2.2
/-- the rows that a state of the reference is made of -/
def gx_mk (w w' : gt_W) : Prop := w' 162 = w 162 ∧ w' 164 = w 164 ∧ w' 166 = w 166 ∧ w' 167 = w 167 ∧ w' 168 = w 168 ∧ w' 169 = w 169 ∧ w' 170 = w 170 ∧ w' 171 = w 171 ∧ w' 172 = w 172
theorem gx_M_eq {w w' : gt_W} {K V : gx_K} {m : Int32} {hs : Nat → gx_K × Int32} {cnt : Nat} {im : Nat → Nat × (gx_K × Int32) × Nat} {sd : Nat} {x : Nat → Nat} {L fp : Nat} {Q : gx_K} (o : ∀ b, b ≠ 161 → b ≠ 163 → b ≠ 165 → b ≠ 173 → b ≠ 174 → b ≠ 175 → w' b = w b) (e : ∀ q, (q < 18) → w' 161 q = w 161 q) (h : gx_M w K V m hs cnt im sd x L fp Q) : gx_M w' K V m hs cnt im sd x L fp Q := by
  unfold gx_M gx_mn at h ⊢
  rw [o 162 (by decide) (by decide) (by decide) (by decide) (by decide) (by decide), o 164 (by decide) (by decide) (by decide) (by decide) (by decide) (by decide), o 166 (by decide) (by decide) (by decide) (by decide) (by decide) (by decide), o 167 (by decide) (by decide) (by decide) (by decide) (by decide) (by decide), o 168 (by decide) (by decide) (by decide) (by decide) (by decide) (by decide), o 169 (by decide) (by decide) (by decide) (by decide) (by decide) (by decide), o 170 (by decide) (by decide) (by decide) (by decide) (by decide) (by decide), o 171 (by decide) (by decide) (by decide) (by decide) (by decide) (by decide), o 172 (by decide) (by decide) (by decide) (by decide) (by decide) (by decide), e 5 (by decide), e 8 (by decide), e 10 (by decide), e 11 (by decide), e 13 (by decide), e 15 (by decide), e 17 (by decide)]
  exact h
/-- another state of now -/
theorem gx_M_now {w w' : gt_W} {K V : gx_K} {m : Int32} {hs : Nat → gx_K × Int32} {cnt : Nat} {im : Nat → Nat × (gx_K × Int32) × Nat} {sd : Nat} {x : Nat → Nat} {L fp : Nat} {Q : gx_K} {V2 : gx_K} {m2 : Int32} (h : gx_M w K V m hs cnt im sd x L fp Q) (o : ∀ b, b ≠ 164 → w' b = w b) (hV : gx_ms (w' 164) K V2 m2) : gx_M w' K V2 m2 hs cnt im sd x L fp Q := by
  unfold gx_M gx_mn at h ⊢
  rw [o 161 (by decide), o 162 (by decide), o 166 (by decide), o 167 (by decide), o 168 (by decide), o 169 (by decide), o 170 (by decide), o 171 (by decide), o 172 (by decide)]
  exact ⟨h.1, hV, h.2.2⟩
theorem gx_ldiv2 {a d : Nat} (ha : a < 2 ^ 62) (h0 : 0 < d) (hd : d < 2 ^ 62) : lN a / lN d = lN (a / d) := Int64.toInt_inj.mp (by
  have hq : a / d ≤ a := Nat.div_le_self a d
  have hne : lN d ≠ -1 := fun e => by
    have h1 := congrArg Int64.toInt e
    rw [gx_lNt (by omega)] at h1
    have h2 : (-1 : Int64).toInt = -1 := by decide
    omega
  rw [Int64.toInt_div_of_ne_right _ _ hne, gx_lNt (by omega), gx_lNt (by omega), gx_lNt (by omega)]
  exact Int.ofNat_tdiv a d)
theorem gx_lrem {a d : Nat} (ha : a < 2 ^ 62) (h0 : 0 < d) (hd : d < 2 ^ 62) : lN a - lN a / lN d * lN d = lN (a % d) := by
  have hq : a / d * d ≤ a := Nat.div_mul_le_self a d
  rw [gx_ldiv2 ha h0 hd, lN_mul, lN_sub hq]
  congr 1
  have := Nat.div_add_mod a d
  rw [Nat.mul_comm] at this
  omega
theorem sh161_8 {r : Nat → Int32} {b : Nat} {z : Int64} (hz : z = (nI b).toInt64) : gt_sh 161 (upd r 8 (nI b)) = some (oO 10 ([.ref 162, .ref 163, .ref 164, .ref 165, .ref 166, .int (r 5), .ref 167, .ref 168, .long (r 8).toInt64, .ref 169, .int (r 10), .int (r 11), .ref 170, .int (r 13), .ref 171, .int (r 15), .ref 172, .int (r 17), .int (r 18), .int (r 19), .int (r 20), .int (r 21), .int (r 22), .int (r 23), .ref 173, .ref 174, .int (r 26), .int (r 27), .ref 175].set 8 (.long z))) := by
  rw [hz]
  rfl
section GPL
variable {l : Launch} {G : gt_G} {own nm : String} {cc : ByteArray} {mL : Nat} {rt : Option FieldType} {R : Room} {Z : gt_Zt} {N : Nat × Nat × Nat} {pc : Nat} {lv : List (Nat × Value)} {st : List Value} {w : gt_W}
theorem gw_long (j : Nat) {idx ci k a b : Nat} {z : Int64} {ty : FieldType} {fs : List Value} (hF : gt_F own idx ci k ty false) (ho : gt_sh a (w a) = some (oO ci fs)) (ho' : gt_sh a (upd (w a) j (nI b)) = some (oO ci (fs.set k (.long z)))) (hn : narrow ty (.long z) = .long z) (hf : fits ty (.long z) = true) (hl0 : k < fs.length) (hd : decode cc pc = .ok (.putfield idx, 3)) (kk : ∀ w' : gt_W, (∀ q, q ≠ a → w' q = w q) → w' a = upd (w a) j (nI b) → gt_A l G own nm cc mL rt R Z N (pc + 3) lv st (gt_enc w')) : gt_A l G own nm cc mL rt R Z N pc lv (.long z :: .ref a :: st) (gt_enc w) :=
  ge_put (v := .long z) j hF ho ho' hn hf hl0 hd (kk _ (fun b hb => gt_wr_ne _ _ hb) (gt_wr_eq _ _ _))
end GPL
theorem gl_lng {x y : Int64} (h : x = y) : (some (Value.long x) : Option Value) = some (Value.long y) := by rw [h]
set_option maxRecDepth 100000 in
set_option maxHeartbeats 4000000 in
theorem c_X10_draw {l : Launch} {G : gt_G} {n : Nat} {w : gt_W} {sd N : Nat} (hsd : w 161 8 = nI sd) (hs : sd < 2147483648) (h0 : 0 < N) (hN : N < 1000) : gt_D l G yX10_draw cX10_draw 2 (some .int) 1 n [.ref 161, .int (nI N)] w (fun r w' => r = some (.int (nI (gx_dr sd N))) ∧ (∀ b, b ≠ 161 → w' b = w b) ∧ w' 161 = upd (w 161) 8 (nI (gx_rnd sd))) := by
  refine gt_D_of (own := RX10) (nm := "draw") rfl rfl (by decide +kernel) (Nat.le_of_ble_eq_true rfl) ?_
  show gt_A _ _ _ _ _ _ _ _ _ _ _ [(0, .ref 161), (1, .int (nI N))] _ _
  refine ga_aload_n 0 dX10_draw_0 rfl ?_
  refine ga_aload_n 0 dX10_draw_1 rfl ?_
  refine ga_get kf_X10_237 (sh161 _) (gl_lng (show (w 161 8).toInt64 = lN sd by rw [hsd, nI_l (by omega)])) dX10_draw_2 ?_
  refine ga_ldc2_w kc_X10_241 dX10_draw_5 ?_
  refine ga_lmul dX10_draw_8 ?_
  refine ga_ldc2_w kc_X10_243 dX10_draw_9 ?_
  refine ga_ladd dX10_draw_12 ?_
  refine ga_ldc2_w kc_X10_245 dX10_draw_13 ?_
  refine ga_lrem dX10_draw_16 (by decide) ?_
  refine gw_long (b := gx_rnd sd) 8 kp_X10_237 (sh161 _) (sh161_8 (by rw [nI_l (by have := gx_rnd_lt sd; omega)]; show lN sd * lN 1103515245 + lN 12345 - (lN sd * lN 1103515245 + lN 12345) / lN 2147483648 * lN 2147483648 = _; rw [lN_mul, lN_add, gx_lrem (by omega) (by decide) (by decide)]; rfl)) rfl rfl (Nat.le_of_ble_eq_true rfl) dX10_draw_17 (fun w_17 o_17 e_17 => ?_)
  refine ga_aload_n 0 dX10_draw_20 rfl ?_
  refine ga_get kf_X10_237 (sh161 _) (gl_lng (show (w_17 161 8).toInt64 = lN (gx_rnd sd) by rw [e_17, upd_eq, nI_l (by have := gx_rnd_lt sd; omega)])) dX10_draw_21 ?_
  refine ga_ldc2_w kc_X10_247 dX10_draw_24 ?_
  refine ga_ldiv dX10_draw_27 (by decide) ?_
  refine ga_iload_n 1 dX10_draw_28 rfl ?_
  refine ga_i2l dX10_draw_29 ?_
  refine ga_lrem dX10_draw_30 (by rw [nI_l (by omega)]; exact fun e => absurd ((lN_eq (b := 0) (by omega) (by decide)).mp e) (by omega)) ?_
  refine ga_l2i dX10_draw_31 ?_
  exact gd_iret dX10_draw_32 ⟨gv (by have hr := gx_rnd_lt sd; rw [nI_l (by omega)]; show (lN (gx_rnd sd) / lN 65536 - lN (gx_rnd sd) / lN 65536 / lN N * lN N).toInt32 = _; rw [gx_ldiv2 (by omega) (by decide) (by decide), gx_lrem (by omega) h0 (by omega), lN_i]; rfl), o_17, e_17⟩
/-- a draw of the reference changes now and the seed alone -/
theorem gx_M_drawn {w w' : gt_W} {K V : gx_K} {m : Int32} {hs : Nat → gx_K × Int32} {cnt : Nat} {im : Nat → Nat × (gx_K × Int32) × Nat} {sd : Nat} {x : Nat → Nat} {L fp : Nat} {Q : gx_K} {V2 : gx_K} {m2 : Int32} {sd2 : Nat} (h : gx_M w K V m hs cnt im sd x L fp Q) (o : ∀ b, b ≠ 161 → b ≠ 164 → w' b = w b) (e : ∀ q, q ≠ 8 → w' 161 q = w 161 q) (e8 : w' 161 8 = nI sd2) (hV : gx_ms (w' 164) K V2 m2) : gx_M w' K V2 m2 hs cnt im sd2 x L fp Q := by
  unfold gx_M gx_mn at h ⊢
  rw [o 162 (by decide) (by decide), o 166 (by decide) (by decide), o 167 (by decide) (by decide), o 168 (by decide) (by decide), o 169 (by decide) (by decide), o 170 (by decide) (by decide), o 171 (by decide) (by decide), o 172 (by decide) (by decide), e 5 (by decide), e 10 (by decide), e 11 (by decide), e 13 (by decide), e 15 (by decide), e 17 (by decide)]
  exact ⟨h.1, hV, h.2.2.1, h.2.2.2.1, e8, h.2.2.2.2.2⟩
set_option maxRecDepth 100000 in
set_option maxHeartbeats 4000000 in
theorem c_X10_draws {l : Launch} {G : gt_G} {n : Nat} {w : gt_W} {K V : gx_K} {m : Int32} {sd : Nat} (hM : gx_mc (w 162) K) (kw : gx_KW K) (hV : gx_ms (w 164) K V m) (vw : gx_VW K V) (vd : gx_Vd K V) (hsd : w 161 8 = nI sd) (hs : sd < 2147483648) (h2 : 0 < K 0 2) : gt_D l G yX10_draws cX10_draws 4 none 2 n [.ref 161] w (fun r w' => r = none ∧ (∀ b, b ≠ 161 → b ≠ 164 → w' b = w b) ∧ (∀ q, q ≠ 8 → w' 161 q = w 161 q) ∧ w' 161 8 = nI (gx_stir K V m sd).2.2 ∧ gx_ms (w' 164) K (gx_stir K V m sd).1 (gx_stir K V m sd).2.1) := by
  refine gt_D_of (own := RX10) (nm := "draws") rfl rfl (by decide +kernel) (Nat.le_of_ble_eq_true rfl) ?_
  show gt_A _ _ _ _ _ _ _ _ _ _ _ [(0, .ref 161)] _ _
  refine ga_aload_n 0 dX10_draws_0 rfl ?_
  refine ga_aload_n 0 dX10_draws_1 rfl ?_
  refine ga_get kf_X10_7 (sh161 _) rfl dX10_draws_2 ?_
  refine ga_iconst (nI 2) dX10_draws_5 (by decide) ?_
  refine gm_c2 hM dX10_draws_6 ?_
  refine gd_V1 km_X10_249 kv_X10_draw (c_X10_draw hsd hs h2 (by have := kw.2.2.1; omega)) (sh161 _) rfl rfl (gt_rc0 (by decide)) (Nat.le_of_ble_eq_true rfl) dX10_draws_7 (fun r_7 w_7 q_7 => ?_)
  obtain ⟨rfl, o7, e7⟩ := q_7
  have hM : gx_mc (w_7 162) K := by rw [o7 162 (by decide)]; exact hM
  have hV : gx_ms (w_7 164) K V m := by rw [o7 164 (by decide)]; exact hV
  refine gs_istore_n [(0, _), (1, _)] dX10_draws_10 (by decide) rfl rfl ?_
  refine ga_aload_n 0 dX10_draws_11 rfl ?_
  refine ga_bipush (nI 6) dX10_draws_12 (by decide) ?_
  refine gd_V1 km_X10_249 kv_X10_draw (c_X10_draw (sd := gx_rnd sd) (N := 6) (by rw [e7, upd_eq]) (gx_rnd_lt _) (by decide) (by decide)) (sh161 _) rfl rfl (gt_rc0 (by decide)) (Nat.le_of_ble_eq_true rfl) dX10_draws_14 (fun r_14 w_14 q_14 => ?_)
  obtain ⟨rfl, o14, e14⟩ := q_14
  have hM : gx_mc (w_14 162) K := by rw [o14 162 (by decide)]; exact hM
  have hV : gx_ms (w_14 164) K V m := by rw [o14 164 (by decide)]; exact hV
  have hd6 := gx_dr_lt (gx_rnd sd) (n := 6) (by decide)
  refine gs_istore_n [(0, _), (1, _), (2, _)] dX10_draws_17 (by decide) rfl rfl ?_
  refine ga_iload_n 2 dX10_draws_18 rfl ?_
  refine ga_iconst (nI 2) dX10_draws_19 (by decide) ?_
  refine ga_icmp_ge 40 dX10_draws_20 (by decide) (fun c_20 => ?_) (fun c_20 => ?_)
  · have hge : 2 ≤ gx_dr (gx_rnd sd) 6 := (nI_leI (by decide) (by omega)).mp c_20
    refine ga_iload_n 2 dX10_draws_40 rfl ?_
    refine ga_iconst (nI 2) dX10_draws_41 (by decide) ?_
    refine ga_icmp_ne 58 dX10_draws_42 (by decide) (fun c_42 => ?_) (fun c_42 => ?_)
    · have hz2 : ¬ gx_dr (gx_rnd sd) 6 = 2 := fun q => c_42 (by rw [q])
      refine ga_iload_n 2 dX10_draws_58 rfl ?_
      refine ga_iconst (nI 3) dX10_draws_59 (by decide) ?_
      refine ga_icmp_ne 118 dX10_draws_60 (by decide) (fun c_60 => ?_) (fun c_60 => ?_)
      · have hz3 : ¬ gx_dr (gx_rnd sd) 6 = 3 := fun q => c_60 (by rw [q])
        have hst : gx_stir K V m sd = (V, m, gx_rnd (gx_rnd sd)) := by unfold gx_stir; rw [if_neg (by omega), if_neg (by omega), if_neg (by omega), if_neg hz2, if_neg hz3]
        first | exact gd_vret dX10_draws_118 ⟨rfl, (fun b h1 h3 => by rw [o34 b h3, o14 b h1, o7 b h1]), (fun q hq => by rw [o34 161 (by decide), e14, upd_ne _ _ hq, e7, upd_ne _ _ hq]), (by rw [hst, o34 161 (by decide), e14, upd_eq]), (by rw [hst]; exact hV34)⟩ | exact gd_vret dX10_draws_118 ⟨rfl, (fun b h1 h3 => by rw [o_54 b h3, o14 b h1, o7 b h1]), (fun q hq => by rw [o_54 161 (by decide), e14, upd_ne _ _ hq, e7, upd_ne _ _ hq]), (by rw [hst, o_54 161 (by decide), e14, upd_eq]), (by rw [hst]; exact hV)⟩ | exact gd_vret dX10_draws_118 ⟨rfl, (fun b h1 h3 => by rw [o14 b h1, o7 b h1]), (fun q hq => by rw [e14, upd_ne _ _ hq, e7, upd_ne _ _ hq]), (by rw [hst, e14, upd_eq]), (by rw [hst]; exact hV)⟩ | exact gd_vret dX10_draws_118 ⟨rfl, (fun b h1 h3 => by rw [o_117 b h3, o79 b h1, o14 b h1, o7 b h1]), (fun q hq => by rw [o_117 161 (by decide), e79, upd_ne _ _ hq, e14, upd_ne _ _ hq, e7, upd_ne _ _ hq]), (by rw [hst, o_117 161 (by decide), e79, upd_eq]), (by rw [hst]; exact hV)⟩ | exact gd_vret dX10_draws_118 ⟨rfl, (fun b h1 h3 => by rw [o_117 b h3, o79 b h1, o14 b h1, o7 b h1]), (fun q hq => by rw [o_117 161 (by decide), e79, upd_ne _ _ hq, e14, upd_ne _ _ hq, e7, upd_ne _ _ hq]), (by rw [hst, o_117 161 (by decide), e79, upd_eq]), (by rw [hst]; rw [gx_up_self] at hV; exact hV)⟩
      · have hz3 : gx_dr (gx_rnd sd) 6 = 3 := (nI_eq (by omega) (by decide)).mp c_60
        have hst : gx_stir K V m sd = ((gx_sit K V (gx_dr sd (K 0 2)) (gx_rnd (gx_rnd sd))).1, m, (gx_sit K V (gx_dr sd (K 0 2)) (gx_rnd (gx_rnd sd))).2) := by unfold gx_stir; rw [if_neg (by omega), if_neg (by omega), if_neg (by omega), if_neg hz2, if_pos hz3]
        refine ga_aload_n 0 dX10_draws_63 rfl ?_
        refine ga_get kf_X10_7 (sh161 _) rfl dX10_draws_64 ?_
        refine ga_iconst (nI 1) dX10_draws_67 (by decide) ?_
        refine gm_c1 hM dX10_draws_68 ?_
        refine ga_if_le 118 dX10_draws_69 (by decide) (fun c_69 => ?_) (fun c_69 => ?_)
        · have ht0 : K 0 1 = 0 := by rcases Nat.eq_zero_or_pos (K 0 1) with q | q; exact q; exact absurd c_69 (nI_nle q (by have := kw.2.1; omega))
          have hst : gx_stir K V m sd = (V, m, gx_rnd (gx_rnd sd)) := by rw [hst]; unfold gx_sit; rw [if_pos ht0]
          first | exact gd_vret dX10_draws_118 ⟨rfl, (fun b h1 h3 => by rw [o34 b h3, o14 b h1, o7 b h1]), (fun q hq => by rw [o34 161 (by decide), e14, upd_ne _ _ hq, e7, upd_ne _ _ hq]), (by rw [hst, o34 161 (by decide), e14, upd_eq]), (by rw [hst]; exact hV34)⟩ | exact gd_vret dX10_draws_118 ⟨rfl, (fun b h1 h3 => by rw [o_54 b h3, o14 b h1, o7 b h1]), (fun q hq => by rw [o_54 161 (by decide), e14, upd_ne _ _ hq, e7, upd_ne _ _ hq]), (by rw [hst, o_54 161 (by decide), e14, upd_eq]), (by rw [hst]; exact hV)⟩ | exact gd_vret dX10_draws_118 ⟨rfl, (fun b h1 h3 => by rw [o14 b h1, o7 b h1]), (fun q hq => by rw [e14, upd_ne _ _ hq, e7, upd_ne _ _ hq]), (by rw [hst, e14, upd_eq]), (by rw [hst]; exact hV)⟩ | exact gd_vret dX10_draws_118 ⟨rfl, (fun b h1 h3 => by rw [o_117 b h3, o79 b h1, o14 b h1, o7 b h1]), (fun q hq => by rw [o_117 161 (by decide), e79, upd_ne _ _ hq, e14, upd_ne _ _ hq, e7, upd_ne _ _ hq]), (by rw [hst, o_117 161 (by decide), e79, upd_eq]), (by rw [hst]; exact hV)⟩ | exact gd_vret dX10_draws_118 ⟨rfl, (fun b h1 h3 => by rw [o_117 b h3, o79 b h1, o14 b h1, o7 b h1]), (fun q hq => by rw [o_117 161 (by decide), e79, upd_ne _ _ hq, e14, upd_ne _ _ hq, e7, upd_ne _ _ hq]), (by rw [hst, o_117 161 (by decide), e79, upd_eq]), (by rw [hst]; rw [gx_up_self] at hV; exact hV)⟩
        · have ht0 : 0 < K 0 1 := by rcases Nat.eq_zero_or_pos (K 0 1) with q | q; exact absurd (show nI (K 0 1) ≤ 0 by rw [q]; decide) c_69; exact q
          have hst : gx_stir K V m sd = ((if gx_free K V (gx_dr (gx_rnd (gx_rnd sd)) (K 0 1)) then gx_up V 2 (gx_dr sd (K 0 2)) (gx_dr (gx_rnd (gx_rnd sd)) (K 0 1) + 1) else V), m, gx_rnd (gx_rnd (gx_rnd sd))) := by rw [hst]; unfold gx_sit; rw [if_neg (by omega)]
          refine ga_aload_n 0 dX10_draws_72 rfl ?_
          refine ga_aload_n 0 dX10_draws_73 rfl ?_
          refine ga_get kf_X10_7 (sh161 _) rfl dX10_draws_74 ?_
          refine ga_iconst (nI 1) dX10_draws_77 (by decide) ?_
          refine gm_c1 hM dX10_draws_78 ?_
          refine gd_V1 km_X10_249 kv_X10_draw (c_X10_draw (sd := gx_rnd (gx_rnd sd)) (by rw [e14, upd_eq]) (gx_rnd_lt _) ht0 (by have := kw.2.1; omega)) (sh161 _) rfl rfl (gt_rc0 (by decide)) (Nat.le_of_ble_eq_true rfl) dX10_draws_79 (fun r_79 w_79 q_79 => ?_)
          obtain ⟨rfl, o79, e79⟩ := q_79
          have hM : gx_mc (w_79 162) K := by rw [o79 162 (by decide)]; exact hM
          have hV : gx_ms (w_79 164) K V m := by rw [o79 164 (by decide)]; exact hV
          have hdT := gx_dr_lt (gx_rnd (gx_rnd sd)) ht0
          refine gs_istore_n [(0, _), (1, _), (2, _), (3, _)] dX10_draws_82 (by decide) rfl rfl ?_
          refine ga_aload_n 0 dX10_draws_83 rfl ?_
          refine ga_get kf_X10_16 (sh161 _) rfl dX10_draws_84 ?_
          refine ga_bipush (nI 12) dX10_draws_87 (by decide) ?_
          refine ga_iload_n 1 dX10_draws_89 rfl ?_
          refine ga_iadd dX10_draws_90 ?_
          refine ga_aload_n 0 dX10_draws_91 rfl ?_
          refine ga_aload_n 0 dX10_draws_92 rfl ?_
          refine ga_get kf_X10_16 (sh161 _) rfl dX10_draws_93 ?_
          refine ga_iload_n 3 dX10_draws_96 rfl ?_
          refine ga_V2 km_X10_199 kv_X10_sitterOn (c_X10_sitterOn hM kw as164 hV vw vd (by have := kw.2.1; omega)) (sh161 _) rfl rfl (gt_rc0 (by decide)) (Nat.le_of_ble_eq_true rfl) dX10_draws_97 ?_
          refine ga_iconst ((-1)) dX10_draws_100 (by decide) ?_
          refine ga_icmp_ne 108 dX10_draws_101 (by decide) (fun c_101 => ?_) (fun c_101 => ?_)
          · have hfr : ¬ gx_free K V (gx_dr (gx_rnd (gx_rnd sd)) (K 0 1)) := fun q => c_101 ((gx_first_free kw _).mpr q)
            rw [if_neg hfr] at hst
            refine ga_aload_n 0 dX10_draws_108 rfl ?_
            refine ga_get kf_X10_16 (sh161 _) rfl dX10_draws_109 ?_
            refine ga_bipush (nI 12) dX10_draws_112 (by decide) ?_
            refine ga_iload_n 1 dX10_draws_114 rfl ?_
            refine ga_iadd dX10_draws_115 ?_
            refine gm_S2 sh164 hV kw (gx_dr_lt sd h2) dX10_draws_116 ?_
            refine gmw_S2 sh164 hV kw (gx_dr_lt sd h2) dX10_draws_117 (fun w_117 o_117 hV => ?_)
            first | exact gd_vret dX10_draws_118 ⟨rfl, (fun b h1 h3 => by rw [o34 b h3, o14 b h1, o7 b h1]), (fun q hq => by rw [o34 161 (by decide), e14, upd_ne _ _ hq, e7, upd_ne _ _ hq]), (by rw [hst, o34 161 (by decide), e14, upd_eq]), (by rw [hst]; exact hV34)⟩ | exact gd_vret dX10_draws_118 ⟨rfl, (fun b h1 h3 => by rw [o_54 b h3, o14 b h1, o7 b h1]), (fun q hq => by rw [o_54 161 (by decide), e14, upd_ne _ _ hq, e7, upd_ne _ _ hq]), (by rw [hst, o_54 161 (by decide), e14, upd_eq]), (by rw [hst]; exact hV)⟩ | exact gd_vret dX10_draws_118 ⟨rfl, (fun b h1 h3 => by rw [o14 b h1, o7 b h1]), (fun q hq => by rw [e14, upd_ne _ _ hq, e7, upd_ne _ _ hq]), (by rw [hst, e14, upd_eq]), (by rw [hst]; exact hV)⟩ | exact gd_vret dX10_draws_118 ⟨rfl, (fun b h1 h3 => by rw [o_117 b h3, o79 b h1, o14 b h1, o7 b h1]), (fun q hq => by rw [o_117 161 (by decide), e79, upd_ne _ _ hq, e14, upd_ne _ _ hq, e7, upd_ne _ _ hq]), (by rw [hst, o_117 161 (by decide), e79, upd_eq]), (by rw [hst]; exact hV)⟩ | exact gd_vret dX10_draws_118 ⟨rfl, (fun b h1 h3 => by rw [o_117 b h3, o79 b h1, o14 b h1, o7 b h1]), (fun q hq => by rw [o_117 161 (by decide), e79, upd_ne _ _ hq, e14, upd_ne _ _ hq, e7, upd_ne _ _ hq]), (by rw [hst, o_117 161 (by decide), e79, upd_eq]), (by rw [hst]; rw [gx_up_self] at hV; exact hV)⟩
          · have hfr := (gx_first_free kw (gx_dr (gx_rnd (gx_rnd sd)) (K 0 1))).mp c_101
            rw [if_pos hfr] at hst
            refine ga_iload_n 3 dX10_draws_104 rfl ?_
            refine ga_top (gx_seat (gx_dr (gx_rnd (gx_rnd sd)) (K 0 1) + 1)) (gx_seat_s _).symm ?_
            refine ga_goto 117 dX10_draws_105 (by decide) ?_
            refine gmw_S2 sh164 hV kw (gx_dr_lt sd h2) dX10_draws_117 (fun w_117 o_117 hV => ?_)
            first | exact gd_vret dX10_draws_118 ⟨rfl, (fun b h1 h3 => by rw [o34 b h3, o14 b h1, o7 b h1]), (fun q hq => by rw [o34 161 (by decide), e14, upd_ne _ _ hq, e7, upd_ne _ _ hq]), (by rw [hst, o34 161 (by decide), e14, upd_eq]), (by rw [hst]; exact hV34)⟩ | exact gd_vret dX10_draws_118 ⟨rfl, (fun b h1 h3 => by rw [o_54 b h3, o14 b h1, o7 b h1]), (fun q hq => by rw [o_54 161 (by decide), e14, upd_ne _ _ hq, e7, upd_ne _ _ hq]), (by rw [hst, o_54 161 (by decide), e14, upd_eq]), (by rw [hst]; exact hV)⟩ | exact gd_vret dX10_draws_118 ⟨rfl, (fun b h1 h3 => by rw [o14 b h1, o7 b h1]), (fun q hq => by rw [e14, upd_ne _ _ hq, e7, upd_ne _ _ hq]), (by rw [hst, e14, upd_eq]), (by rw [hst]; exact hV)⟩ | exact gd_vret dX10_draws_118 ⟨rfl, (fun b h1 h3 => by rw [o_117 b h3, o79 b h1, o14 b h1, o7 b h1]), (fun q hq => by rw [o_117 161 (by decide), e79, upd_ne _ _ hq, e14, upd_ne _ _ hq, e7, upd_ne _ _ hq]), (by rw [hst, o_117 161 (by decide), e79, upd_eq]), (by rw [hst]; exact hV)⟩ | exact gd_vret dX10_draws_118 ⟨rfl, (fun b h1 h3 => by rw [o_117 b h3, o79 b h1, o14 b h1, o7 b h1]), (fun q hq => by rw [o_117 161 (by decide), e79, upd_ne _ _ hq, e14, upd_ne _ _ hq, e7, upd_ne _ _ hq]), (by rw [hst, o_117 161 (by decide), e79, upd_eq]), (by rw [hst]; rw [gx_up_self] at hV; exact hV)⟩
    · have hz : gx_dr (gx_rnd sd) 6 = 2 := (nI_eq (by omega) (by decide)).mp c_42
      have hst : gx_stir K V m sd = (gx_up V 2 (gx_dr sd (K 0 2)) 0, m, gx_rnd (gx_rnd sd)) := by unfold gx_stir; rw [if_neg (by omega), if_neg (by omega), if_neg (by omega), if_pos hz]
      refine ga_aload_n 0 dX10_draws_45 rfl ?_
      refine ga_get kf_X10_16 (sh161 _) rfl dX10_draws_46 ?_
      refine ga_bipush (nI 12) dX10_draws_49 (by decide) ?_
      refine ga_iload_n 1 dX10_draws_51 rfl ?_
      refine ga_iadd dX10_draws_52 ?_
      refine ga_iconst ((-1)) dX10_draws_53 (by decide) ?_
      refine ga_top (gx_seat 0) gx_seat_0.symm ?_
      refine gmw_S2 sh164 hV kw (gx_dr_lt sd h2) dX10_draws_54 (fun w_54 o_54 hV => ?_)
      refine ga_goto 118 dX10_draws_55 (by decide) ?_
      first | exact gd_vret dX10_draws_118 ⟨rfl, (fun b h1 h3 => by rw [o34 b h3, o14 b h1, o7 b h1]), (fun q hq => by rw [o34 161 (by decide), e14, upd_ne _ _ hq, e7, upd_ne _ _ hq]), (by rw [hst, o34 161 (by decide), e14, upd_eq]), (by rw [hst]; exact hV34)⟩ | exact gd_vret dX10_draws_118 ⟨rfl, (fun b h1 h3 => by rw [o_54 b h3, o14 b h1, o7 b h1]), (fun q hq => by rw [o_54 161 (by decide), e14, upd_ne _ _ hq, e7, upd_ne _ _ hq]), (by rw [hst, o_54 161 (by decide), e14, upd_eq]), (by rw [hst]; exact hV)⟩ | exact gd_vret dX10_draws_118 ⟨rfl, (fun b h1 h3 => by rw [o14 b h1, o7 b h1]), (fun q hq => by rw [e14, upd_ne _ _ hq, e7, upd_ne _ _ hq]), (by rw [hst, e14, upd_eq]), (by rw [hst]; exact hV)⟩ | exact gd_vret dX10_draws_118 ⟨rfl, (fun b h1 h3 => by rw [o_117 b h3, o79 b h1, o14 b h1, o7 b h1]), (fun q hq => by rw [o_117 161 (by decide), e79, upd_ne _ _ hq, e14, upd_ne _ _ hq, e7, upd_ne _ _ hq]), (by rw [hst, o_117 161 (by decide), e79, upd_eq]), (by rw [hst]; exact hV)⟩ | exact gd_vret dX10_draws_118 ⟨rfl, (fun b h1 h3 => by rw [o_117 b h3, o79 b h1, o14 b h1, o7 b h1]), (fun q hq => by rw [o_117 161 (by decide), e79, upd_ne _ _ hq, e14, upd_ne _ _ hq, e7, upd_ne _ _ hq]), (by rw [hst, o_117 161 (by decide), e79, upd_eq]), (by rw [hst]; rw [gx_up_self] at hV; exact hV)⟩
  · have hlt : gx_dr (gx_rnd sd) 6 < 2 := Nat.not_le.mp (fun q => c_20 (nI_le q (by omega)))
    refine ga_aload_n 0 dX10_draws_23 rfl ?_
    refine ga_iload_n 1 dX10_draws_24 rfl ?_
    refine ga_iload_n 2 dX10_draws_25 rfl ?_
    refine ga_if_ne 33 dX10_draws_26 (by decide) (fun c_26 => ?_) (fun c_26 => ?_)
    · have hz : ¬ gx_dr (gx_rnd sd) 6 = 0 := fun q => c_26 (by rw [q]; rfl)
      have hst : gx_stir K V m sd = (V, gx_slep m (nI (gx_dr sd (K 0 2))) (nI 0), gx_rnd (gx_rnd sd)) := by unfold gx_stir; rw [if_neg (by omega), if_neg hz, if_pos (by omega)]
      refine ga_iconst (nI 0) dX10_draws_33 (by decide) ?_
      refine gd_V2 km_X10_231 kv_X10_sleeps (c_X10_sleeps kw hV _ _) (sh161 _) rfl rfl (gt_rc0 (by decide)) (Nat.le_of_ble_eq_true rfl) dX10_draws_34 (fun r_34 w_34 q_34 => ?_)
      obtain ⟨rfl, o34, hV34⟩ := q_34
      refine ga_goto 118 dX10_draws_37 (by decide) ?_
      first | exact gd_vret dX10_draws_118 ⟨rfl, (fun b h1 h3 => by rw [o34 b h3, o14 b h1, o7 b h1]), (fun q hq => by rw [o34 161 (by decide), e14, upd_ne _ _ hq, e7, upd_ne _ _ hq]), (by rw [hst, o34 161 (by decide), e14, upd_eq]), (by rw [hst]; exact hV34)⟩ | exact gd_vret dX10_draws_118 ⟨rfl, (fun b h1 h3 => by rw [o_54 b h3, o14 b h1, o7 b h1]), (fun q hq => by rw [o_54 161 (by decide), e14, upd_ne _ _ hq, e7, upd_ne _ _ hq]), (by rw [hst, o_54 161 (by decide), e14, upd_eq]), (by rw [hst]; exact hV)⟩ | exact gd_vret dX10_draws_118 ⟨rfl, (fun b h1 h3 => by rw [o14 b h1, o7 b h1]), (fun q hq => by rw [e14, upd_ne _ _ hq, e7, upd_ne _ _ hq]), (by rw [hst, e14, upd_eq]), (by rw [hst]; exact hV)⟩ | exact gd_vret dX10_draws_118 ⟨rfl, (fun b h1 h3 => by rw [o_117 b h3, o79 b h1, o14 b h1, o7 b h1]), (fun q hq => by rw [o_117 161 (by decide), e79, upd_ne _ _ hq, e14, upd_ne _ _ hq, e7, upd_ne _ _ hq]), (by rw [hst, o_117 161 (by decide), e79, upd_eq]), (by rw [hst]; exact hV)⟩ | exact gd_vret dX10_draws_118 ⟨rfl, (fun b h1 h3 => by rw [o_117 b h3, o79 b h1, o14 b h1, o7 b h1]), (fun q hq => by rw [o_117 161 (by decide), e79, upd_ne _ _ hq, e14, upd_ne _ _ hq, e7, upd_ne _ _ hq]), (by rw [hst, o_117 161 (by decide), e79, upd_eq]), (by rw [hst]; rw [gx_up_self] at hV; exact hV)⟩
    · have hz : gx_dr (gx_rnd sd) 6 = 0 := (nI_eq (by omega) (by decide)).mp (c_26.trans nI_0.symm)
      have hst : gx_stir K V m sd = (V, gx_slep m (nI (gx_dr sd (K 0 2))) (nI 1), gx_rnd (gx_rnd sd)) := by unfold gx_stir; rw [if_neg (by omega), if_pos hz]
      refine ga_iconst (nI 1) dX10_draws_29 (by decide) ?_
      refine ga_goto 34 dX10_draws_30 (by decide) ?_
      refine gd_V2 km_X10_231 kv_X10_sleeps (c_X10_sleeps kw hV _ _) (sh161 _) rfl rfl (gt_rc0 (by decide)) (Nat.le_of_ble_eq_true rfl) dX10_draws_34 (fun r_34 w_34 q_34 => ?_)
      obtain ⟨rfl, o34, hV34⟩ := q_34
      refine ga_goto 118 dX10_draws_37 (by decide) ?_
      first | exact gd_vret dX10_draws_118 ⟨rfl, (fun b h1 h3 => by rw [o34 b h3, o14 b h1, o7 b h1]), (fun q hq => by rw [o34 161 (by decide), e14, upd_ne _ _ hq, e7, upd_ne _ _ hq]), (by rw [hst, o34 161 (by decide), e14, upd_eq]), (by rw [hst]; exact hV34)⟩ | exact gd_vret dX10_draws_118 ⟨rfl, (fun b h1 h3 => by rw [o_54 b h3, o14 b h1, o7 b h1]), (fun q hq => by rw [o_54 161 (by decide), e14, upd_ne _ _ hq, e7, upd_ne _ _ hq]), (by rw [hst, o_54 161 (by decide), e14, upd_eq]), (by rw [hst]; exact hV)⟩ | exact gd_vret dX10_draws_118 ⟨rfl, (fun b h1 h3 => by rw [o14 b h1, o7 b h1]), (fun q hq => by rw [e14, upd_ne _ _ hq, e7, upd_ne _ _ hq]), (by rw [hst, e14, upd_eq]), (by rw [hst]; exact hV)⟩ | exact gd_vret dX10_draws_118 ⟨rfl, (fun b h1 h3 => by rw [o_117 b h3, o79 b h1, o14 b h1, o7 b h1]), (fun q hq => by rw [o_117 161 (by decide), e79, upd_ne _ _ hq, e14, upd_ne _ _ hq, e7, upd_ne _ _ hq]), (by rw [hst, o_117 161 (by decide), e79, upd_eq]), (by rw [hst]; exact hV)⟩ | exact gd_vret dX10_draws_118 ⟨rfl, (fun b h1 h3 => by rw [o_117 b h3, o79 b h1, o14 b h1, o7 b h1]), (fun q hq => by rw [o_117 161 (by decide), e79, upd_ne _ _ hq, e14, upd_ne _ _ hq, e7, upd_ne _ _ hq]), (by rw [hst, o_117 161 (by decide), e79, upd_eq]), (by rw [hst]; rw [gx_up_self] at hV; exact hV)⟩
