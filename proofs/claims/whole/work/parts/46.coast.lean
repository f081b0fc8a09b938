/-! a coast is read -/
def aCoast (x : Nat → Nat) (L : Nat) : Int32 := if (gx_ri x L).1.2.1 = 0 then nI ((gx_ri x L).2 0 0) else (-10) - nI (gx_ri x L).1.2.1
def nCoast : gx_Z → gx_Z
  | (K, v, hs, cnt, im, sd, x, L, fp, Q) => if (gx_ri x L).1.2.1 = 0 then ((gx_ri x L).2, (gx_begin (gx_ri x L).2, nI 0), hs, 0, fun i => (0, (im i).2), sd, x, 0, (gx_ri x L).1.2.2, gx_Q0 Q) else (K, v, hs, cnt, im, sd, x, 0, (gx_ri x L).1.2.2, Q)
theorem nCoast_k {K V : gx_K} {m : Int32} {hs : Nat → gx_K × Int32} {cnt : Nat} {im : Nat → Nat × (gx_K × Int32) × Nat} {sd : Nat} {x : Nat → Nat} {L fp : Nat} {Q : gx_K} (h : ¬ (gx_ri x L).1.2.1 = 0) : nCoast (K, (V, m), hs, cnt, im, sd, x, L, fp, Q) = (K, (V, m), hs, cnt, im, sd, x, 0, (gx_ri x L).1.2.2, Q) := if_neg h
theorem nCoast_g {K V : gx_K} {m : Int32} {hs : Nat → gx_K × Int32} {cnt : Nat} {im : Nat → Nat × (gx_K × Int32) × Nat} {sd : Nat} {x : Nat → Nat} {L fp : Nat} {Q : gx_K} (h : (gx_ri x L).1.2.1 = 0) : nCoast (K, (V, m), hs, cnt, im, sd, x, L, fp, Q) = ((gx_ri x L).2, (gx_begin (gx_ri x L).2, nI 0), hs, 0, fun i => (0, (im i).2), sd, x, 0, (gx_ri x L).1.2.2, gx_Q0 Q) := if_pos h
theorem gx_X_coast {w w' : gt_W} {c : Nat} {K V : gx_K} {m : Int32} {hs : Nat → gx_K × Int32} {cnt : Nat} {im : Nat → Nat × (gx_K × Int32) × Nat} {sd : Nat} {x : Nat → Nat} {L fp : Nat} {Q : gx_K} {c2 fp2 : Nat} {K2 : gx_K} (hX : gx_X w c K V m hs cnt im sd x L fp Q) (hc2 : gt_isC c2) (hne : c2 ≠ c) (h1 : w' 1 1 = nI c2) (h2 : w' 1 2 = nI c) (h3 : w' 1 11 = gx_seat fp2) (hK : gx_Co w' c2 K2) (hV : gx_St w' 20 K2 (gx_begin K2) (nI 0)) (e30 : w' 30 1 = w 30 1) (e302 : w' 30 2 = nI 0) (hi : ∀ i, i < 2 → w' (149 + 6 * i) 1 = w (149 + 6 * i) 1 ∧ w' (149 + 6 * i) 2 = nI 0) (h113 : w' 113 = w 113) (h21 : w' 2 1 = nI 0) (z0 : w' 114 0 = nI 0) (z1 : w' 114 1 = nI 0) (z2 : w' 114 2 = nI 0) : gx_X w' c2 K2 (gx_begin K2) (nI 0) hs 0 (fun i => (0, (im i).2)) sd x 0 fp2 (gx_Q0 Q) := by
  obtain ⟨⟨hc, -, -, -⟩, -, -, ⟨nx, hx, q1, -, -⟩, him, hsd, -, -⟩ := hX
  exact ⟨⟨hc2, h1, ⟨c, hc, hne.symm, h2⟩, h3⟩, hK, hV, ⟨nx, hx, e30.trans q1, e302, fun k hk => absurd hk (Nat.not_lt_zero k)⟩, fun i h => ⟨(hi i h).1.trans (him i h).1, (hi i h).2, fun q => absurd (show (0 : Nat) = 1 from q) (by decide)⟩, by rw [h113]; exact hsd, ⟨h21, fun j hj => absurd hj (Nat.not_lt_zero j)⟩, gx_No_0 z0 z1 z2⟩
theorem gx_X_fault {w w' : gt_W} {c : Nat} {K V : gx_K} {m : Int32} {hs : Nat → gx_K × Int32} {cnt : Nat} {im : Nat → Nat × (gx_K × Int32) × Nat} {sd : Nat} {x : Nat → Nat} {L fp : Nat} {Q : gx_K} {c2 fp2 : Nat} (hX : gx_X w c K V m hs cnt im sd x L fp Q) (hc2 : gt_isC c2) (hne : c2 ≠ c) (e12 : w 1 2 = nI c2) (o : ∀ a, a ≠ 1 → a ≠ 2 → (a < c2 ∨ c2 + 8 ≤ a) → w' a = w a) (h1 : w' 1 1 = w 1 1) (h2 : w' 1 2 = w 1 2) (h3 : w' 1 11 = gx_seat fp2) (h21 : w' 2 1 = nI 0) : gx_X w' c K V m hs cnt im sd x 0 fp2 Q := by
  obtain ⟨⟨hc, h11, h12, hfp⟩, hK, hV, ⟨nx, hx, q1, q2, q3⟩, him, hsd, htx, hQ⟩ := hX
  have hl := gt_isC_lt hc2
  have hK' : gx_Co w' c K := by
    have hcc : c2 + 8 ≤ c ∨ c + 8 ≤ c2 := by
      rcases hc with rfl | rfl <;> rcases hc2 with rfl | rfl <;> omega
    have hl2 := gt_isC_lt hc
    unfold gx_Co at hK ⊢
    rw [o c (by omega) (by omega) (by omega), o (c + 1) (by omega) (by omega) (by omega), o (c + 2) (by omega) (by omega) (by omega), o (c + 3) (by omega) (by omega) (by omega), o (c + 4) (by omega) (by omega) (by omega), o (c + 5) (by omega) (by omega) (by omega), o (c + 6) (by omega) (by omega) (by omega), o (c + 7) (by omega) (by omega) (by omega)]
    exact hK
  refine ⟨⟨hc, h1.trans h11, ⟨c2, hc2, hne, h2.trans e12⟩, h3⟩, hK', gx_St_eq (fun a q1 q2 => o a (by omega) (by omega) (by omega)) hV, ⟨nx, hx, by rw [o 30 (by omega) (by omega) (by omega)]; exact q1, by rw [o 30 (by omega) (by omega) (by omega)]; exact q2, fun k hk => gx_St_eq (fun a q1 q2 => o a (by omega) (by omega) (by omega)) (q3 k hk)⟩, fun i hi => ?_, by rw [o 113 (by omega) (by omega) (by omega)]; exact hsd, ⟨h21, fun j hj => absurd hj (Nat.not_lt_zero j)⟩, gx_No_eq (fun a q1 q2 => o a (by omega) (by omega) (by omega)) hQ⟩
  have h := him i hi
  exact ⟨by rw [o (149 + 6 * i) (by omega) (by omega) (by omega)]; exact h.1, by rw [o (149 + 6 * i) (by omega) (by omega) (by omega)]; exact h.2.1, fun q => gx_St_eq (fun a q1 q2 => o a (by omega) (by omega) (by omega)) (h.2.2 q)⟩
theorem sh1_1 {r : Nat → Int32} {b : Nat} (hb : b < 2 ^ 31) : gt_sh 1 (upd r 1 (nI b)) = some (oO 9 ([.ref 2, .ref (r 1).toNatClampNeg, .ref (r 2).toNatClampNeg, .ref 20, .ref 25, .ref 30, .ref 112, .ref 113, .ref 114, .ref 123, .ref 141, .int (r 11)].set 1 (.ref b))) := by
  show some (oO 9 [.ref 2, .ref (nI b).toNatClampNeg, .ref (r 2).toNatClampNeg, .ref 20, .ref 25, .ref 30, .ref 112, .ref 113, .ref 114, .ref 123, .ref 141, .int (r 11)]) = _
  rw [nI_clamp hb]
  rfl
theorem sh1_2 {r : Nat → Int32} {b : Nat} (hb : b < 2 ^ 31) : gt_sh 1 (upd r 2 (nI b)) = some (oO 9 ([.ref 2, .ref (r 1).toNatClampNeg, .ref (r 2).toNatClampNeg, .ref 20, .ref 25, .ref 30, .ref 112, .ref 113, .ref 114, .ref 123, .ref 141, .int (r 11)].set 2 (.ref b))) := by
  show some (oO 9 [.ref 2, .ref (r 1).toNatClampNeg, .ref (nI b).toNatClampNeg, .ref 20, .ref 25, .ref 30, .ref 112, .ref 113, .ref 114, .ref 123, .ref 141, .int (r 11)]) = _
  rw [nI_clamp hb]
  rfl
section GPR
variable {l : Launch} {G : gt_G} {own nm : String} {cc : ByteArray} {mL : Nat} {rt : Option FieldType} {R : Room} {Z : gt_Zt} {N : Nat × Nat × Nat} {pc : Nat} {lv : List (Nat × Value)} {st : List Value} {w : gt_W}
theorem gw_ref (j : Nat) {idx ci k a b : Nat} {ty : FieldType} {fs : List Value} (hF : gt_F own idx ci k ty false) (ho : gt_sh a (w a) = some (oO ci fs)) (ho' : gt_sh a (upd (w a) j (nI b)) = some (oO ci (fs.set k (.ref b)))) (hn : narrow ty (gt_v G (.ref b)) = gt_v G (.ref b)) (hf : fits ty (gt_v G (.ref b)) = true) (hl0 : k < fs.length) (hd : decode cc pc = .ok (.putfield idx, 3)) (kk : ∀ w' : gt_W, (∀ q, q ≠ a → w' q = w q) → w' a = upd (w a) j (nI b) → gt_A l G own nm cc mL rt R Z N (pc + 3) lv st (gt_enc w')) : gt_A l G own nm cc mL rt R Z N pc lv (.ref b :: .ref a :: st) (gt_enc w) :=
  ge_put (v := .ref b) j hF ho ho' hn hf hl0 hd (kk _ (fun b hb => gt_wr_ne _ _ hb) (gt_wr_eq _ _ _))
end GPR
set_option maxRecDepth 100000 in
set_option maxHeartbeats 4000000 in
theorem c_X9_coast {l : Launch} {G : gt_G} {n : Nat} {w : gt_W} {c : Nat} {K V : gx_K} {m : Int32} {hs : Nat → gx_K × Int32} {cnt : Nat} {im : Nat → Nat × (gx_K × Int32) × Nat} {sd : Nat} {x : Nat → Nat} {L fp : Nat} {Q : gx_K} (hX : gx_X w c K V m hs cnt im sd x L fp Q) (hW : gx_WF K V m hs cnt im sd x L fp Q)  : gt_D l G yX9_coast cX9_coast 4 (some .int) 7 n [.ref 1] w (fun r w' => r = some (.int (aCoast x L)) ∧ (∃ c', gx_XZ w' c' (nCoast (K, (V, m), hs, cnt, im, sd, x, L, fp, Q))) ∧ ∀ a, 161 ≤ a → w' a = w a) := by
  obtain ⟨⟨hc, h11, ⟨c2, hc2, hne2, h12⟩, hfp⟩, hK, hV, hpast, him, hsd, htx, hQ⟩ := id hX
  obtain ⟨kw, vw, vd, hhr, hcnt, hhs, him2, hsd2, hxL, hfp2, qw⟩ := id hW
  have hcur : (some (Value.ref (w 1 1).toNatClampNeg) : Option Value) = some (Value.ref c) := by rw [h11, nI_clamp (by have := gt_isC_lt hc; omega)]
  have hl1 := gt_isC_lt hc
  have hl2 := gt_isC_lt hc2
  have hspa : (some (Value.ref (w 1 2).toNatClampNeg) : Option Value) = some (Value.ref c2) := by rw [h12, nI_clamp (by omega)]
  refine gt_D_of (own := RX9) (nm := "coast") rfl rfl (by decide +kernel) (Nat.le_of_ble_eq_true rfl) ?_
  show gt_A _ _ _ _ _ _ _ _ _ _ _ [(0, .ref 1)] _ _
  refine ga_aload_n 0 dX9_coast_0 rfl ?_
  refine ga_get kf_X9_10 (sh1 _) rfl dX9_coast_1 ?_
  refine ga_aload_n 0 dX9_coast_4 rfl ?_
  refine ga_get kf_X9_23 (sh1 _) hspa dX9_coast_5 ?_
  refine gd_V1 km_X9_91 kv_X6_readInto (c_X6_readInto hc2 htx.1 hxL.1 (fun j hj => ⟨htx.2 j hj, hxL.2 j hj⟩)) (sh2 _) rfl rfl (gt_rc0 (by decide)) (Nat.le_of_ble_eq_true rfl) dX9_coast_8 (fun r_8 w_8 q_8 => ?_)
  obtain ⟨rfl, o8, h24, h21, hK2⟩ := q_8
  have e81 : w_8 1 = w 1 := o8 1 (by decide) (by omega)
  refine gs_istore_n [(0, _), (1, _)] dX9_coast_11 (by decide) rfl rfl ?_
  refine ga_aload_n 0 dX9_coast_12 rfl ?_
  refine ga_aload_n 0 dX9_coast_13 rfl ?_
  refine ga_get kf_X9_10 (sh1 _) rfl dX9_coast_14 ?_
  refine ga_V0 km_X9_95 kv_X6_faultPlace (c_X6_faultPlace h24) (sh2 _) rfl rfl (gt_rc0 (by decide)) (Nat.le_of_ble_eq_true rfl) dX9_coast_17 ?_
  refine gw_put 11 kp_X9_77 (sh1 _) (sh1 _) rfl rfl (Nat.le_of_ble_eq_true rfl) dX9_coast_20 (fun w_20 o_20 e_20 => ?_)
  have e1 : w_20 1 1 = nI c := by rw [e_20, upd_ne _ _ (by decide), e81]; exact h11
  have e2 : w_20 1 2 = nI c2 := by rw [e_20, upd_ne _ _ (by decide), e81]; exact h12
  have e3 : w_20 1 11 = gx_seat (gx_ri x L).1.2.2 := by rw [e_20, upd_eq]
  have hcur : (some (Value.ref (w_20 1 1).toNatClampNeg) : Option Value) = some (Value.ref c) := by rw [e1, nI_clamp (by omega)]
  have hspa : (some (Value.ref (w_20 1 2).toNatClampNeg) : Option Value) = some (Value.ref c2) := by rw [e2, nI_clamp (by omega)]
  refine ga_iload_n 1 dX9_coast_23 rfl ?_
  refine ga_if_eq 32 dX9_coast_24 (by decide) (fun c_24 => ?_) (fun c_24 => ?_)
  · have hz : (gx_ri x L).1.2.1 = 0 := (nI_eq (by have := (gx_ri_RW hxL.1 hxL.2).2.2.1; omega) (by decide)).mp (c_24.trans nI_0.symm)
    have kw2 := (gx_ri_0 hxL.1 hxL.2 hz).2
    refine ga_aload_n 0 dX9_coast_32 rfl ?_
    refine ga_get kf_X9_19 (sh1 _) hcur dX9_coast_33 ?_
    refine gs_astore_n [(0, _), (1, _), (2, _)] dX9_coast_36 (by decide) rfl rfl ?_
    refine ga_aload_n 0 dX9_coast_37 rfl ?_
    refine ga_aload_n 0 dX9_coast_38 rfl ?_
    refine ga_get kf_X9_23 (sh1 _) hspa dX9_coast_39 ?_
    refine gw_ref 1 kp_X9_19 (sh1 _) (sh1_1 (by omega)) rfl rfl (Nat.le_of_ble_eq_true rfl) dX9_coast_42 (fun w_42 o_42 e_42 => ?_)
    refine ga_aload_n 0 dX9_coast_45 rfl ?_
    refine ga_aload_n 2 dX9_coast_46 rfl ?_
    refine gw_ref 2 kp_X9_23 (sh1 _) (sh1_2 (by omega)) rfl rfl (Nat.le_of_ble_eq_true rfl) dX9_coast_47 (fun w_47 o_47 e_47 => ?_)
    have h11 : w_47 1 1 = nI c2 := by rw [e_47, upd_ne _ _ (by decide), e_42, upd_eq]
    have h12n : w_47 1 2 = nI c := by rw [e_47, upd_eq]
    have h1b : w_47 1 11 = gx_seat (gx_ri x L).1.2.2 := by rw [e_47, upd_ne _ _ (by decide), e_42, upd_ne _ _ (by decide)]; exact e3
    have hc := hc2
    have hK : gx_Co w_47 c2 (gx_ri x L).2 := by
      have ee : ∀ a, 4 ≤ a → w_47 a = w_8 a := fun a ha => by rw [o_47 a (by omega), o_42 a (by omega), o_20 a (by omega)]
      exact gx_Co_eq9 hc2 ee hK2
    have hcur : (some (Value.ref (w_47 1 1).toNatClampNeg) : Option Value) = some (Value.ref c2) := by rw [h11, nI_clamp (by omega)]
    refine ga_aload_n 0 dX9_coast_50 rfl ?_
    refine ga_get kf_X9_29 (sh1 _) rfl dX9_coast_51 ?_
    refine ga_aload_n 0 dX9_coast_54 rfl ?_
    refine ga_get kf_X9_19 (sh1 _) hcur dX9_coast_55 ?_
    refine gd_V1 km_X9_99 kv_X8_begin (c_X8_begin hc hK kw2 isS20) (shS isS20 _) rfl rfl (gt_rc0 (by decide)) (Nat.le_of_ble_eq_true rfl) dX9_coast_58 (fun r_58 w_58 q_58 => ?_)
    obtain ⟨rfl, hF58, hV58⟩ := q_58
    have hK := gx_Co_fr hc isS20 hF58 hK
    have h11 : w_58 1 1 = nI c2 := by rw [hF58 1 (by omega)]; exact h11
    refine ga_aload_n 0 dX9_coast_61 rfl ?_
    refine ga_get kf_X9_39 (sh1 _) rfl dX9_coast_62 ?_
    refine ga_V0 km_X9_103 kv_X4_forget c_X4_forget (sh30 _) rfl rfl (gt_rc0 (by decide)) (Nat.le_of_ble_eq_true rfl) dX9_coast_65 ?_
    generalize hw65 : gt_wr w_58 30 (upd (w_58 30) 2 (nI 0)) = w_65
    refine ga_aload_n 0 dX9_coast_68 rfl ?_
    refine ga_get kf_X9_59 (sh1 _) rfl dX9_coast_69 ?_
    refine gd_V0 km_X9_106 kv_X3_clear c_X3_clear (sh114 _) rfl rfl (gt_rc0 (by decide)) (Nat.le_of_ble_eq_true rfl) dX9_coast_72 (fun r_72 w_72 q_72 => ?_)
    obtain ⟨rfl, oC, z0, z1, z2⟩ := q_72
    have hK : gx_Co w_72 c2 (gx_ri x L).2 := gx_Co_eq hc (fun a ha => by rw [oC a (by omega), ← hw65, gt_wr_ne _ _ (by omega)]) hK
    have h11 : w_72 1 1 = nI c2 := by rw [oC 1 (by decide), ← hw65, gt_wr_ne _ _ (by decide)]; exact h11
    refine ga_iconst (nI 0) dX9_coast_75 (by decide) ?_
    refine gs_istore_n [(0, _), (1, _), (2, _), (3, _)] dX9_coast_76 (by decide) rfl rfl ?_
    have loop : ∀ j t, t + j = 2 → ∀ w1 : gt_W, (∀ a, a ≠ 149 → a ≠ 155 → w1 a = w_72 a) → (∀ i, i < 2 → w1 (149 + 6 * i) 1 = w_72 (149 + 6 * i) 1) → (∀ i, i < t → w1 (149 + 6 * i) 2 = nI 0) → gt_A l G RX9 "coast" cX9_coast 4 (some .int) (gt_rm 7 0 0) (gt_ZD G n (fun r w' => r = some (.int (aCoast x L)) ∧ (∃ c', gx_XZ w' c' (nCoast (K, (V, m), hs, cnt, im, sd, x, L, fp, Q))) ∧ ∀ a, 161 ≤ a → w' a = w a)) (n, 0, 0) 77 [(0, .ref 1), (1, .int (nI (gx_ri x L).1.2.1)), (2, .ref c), (3, .int (nI t))] [] (gt_enc w1) := by
      intro j
      induction j with
      | zero =>
        intro t ht w1 oI hI1 hI2
        have et : t = 2 := by omega
        have oK : gx_Co w1 c2 (gx_ri x L).2 := gx_Co_eq hc (fun a ha => oI a (by omega) (by omega)) hK
        have hK := oK
        have e11 : w1 1 1 = nI c2 := by rw [oI 1 (by decide) (by decide)]; exact h11
        have hcur : (some (Value.ref (w1 1 1).toNatClampNeg) : Option Value) = some (Value.ref c2) := by rw [e11, nI_clamp (by omega)]
        have oall : ∀ a, 161 ≤ a → w1 a = w a := fun a ha => by rw [oI a (by omega) (by omega), oC a (by omega), ← hw65, gt_wr_ne _ _ (by omega), hF58 a (by omega), o_47 a (by omega), o_42 a (by omega), o_20 a (by omega), o8 a (by omega) (by omega)]
        have hb : ∀ a, (a < 20 ∨ 25 ≤ a) → a ≠ 30 → a ≠ 114 → w_72 a = w_47 a := fun a q1 q2 q3 => by rw [oC a q3, ← hw65, gt_wr_ne _ _ q2, hF58 a q1]
        have hb2 : ∀ a, 20 ≤ a → w_47 a = w a := fun a q => by rw [o_47 a (by omega), o_42 a (by omega), o_20 a (by omega), o8 a (by omega) (by omega)]
        refine ga_iload_n 3 dX9_coast_77 rfl ?_
        refine ga_iconst (nI 2) dX9_coast_78 (by decide) ?_
        refine ga_icmp_ge 98 dX9_coast_79 (by decide) (fun c_79 => ?_) (fun c_79 => absurd (nI_le (by omega) (by omega)) c_79)
        refine ga_aload_n 0 dX9_coast_98 rfl ?_
        refine ga_get kf_X9_19 (sh1 _) hcur dX9_coast_99 ?_
        refine ga_get kf_X9_113 (shC hc _) (gv hK.1.1) dX9_coast_102 ?_
        exact gd_iret dX9_coast_105 ⟨gv (by unfold aCoast; rw [if_pos hz]), ⟨c2, by
    rw [nCoast_g hz]
    exact gx_X_coast hX hc2 hne2 e11 (by rw [oI 1 (by decide) (by decide), hb 1 (by omega) (by decide) (by decide)]; exact h12n) (by rw [oI 1 (by decide) (by decide), hb 1 (by omega) (by decide) (by decide)]; exact h1b) hK (gx_St_eq (fun a q1 q2 => by rw [oI a (by omega) (by omega), oC a (by omega), ← hw65, gt_wr_ne _ _ (by omega)]) hV58) (by rw [oI 30 (by decide) (by decide), oC 30 (by decide), ← hw65, gt_wr_eq, upd_ne _ _ (by decide), hF58 30 (by omega), hb2 30 (by decide)]) (by rw [oI 30 (by decide) (by decide), oC 30 (by decide), ← hw65, gt_wr_eq, upd_eq]) (fun i hi => ⟨by rw [hI1 i hi, hb (149 + 6 * i) (by omega) (by omega) (by omega), hb2 (149 + 6 * i) (by omega)], hI2 i (by omega)⟩) (by rw [oI 113 (by decide) (by decide), hb 113 (by omega) (by decide) (by decide), hb2 113 (by decide)]) (by rw [oI 2 (by decide) (by decide), hb 2 (by omega) (by decide) (by decide), o_47 2 (by decide), o_42 2 (by decide), o_20 2 (by decide)]; exact h21) (by rw [oI 114 (by decide) (by decide)]; exact z0) (by rw [oI 114 (by decide) (by decide)]; exact z1) (by rw [oI 114 (by decide) (by decide)]; exact z2)⟩, oall⟩
      | succ j ih =>
        intro t ht w1 oI hI1 hI2
        have hi2 : t < 2 := by omega
        have e11 : w1 1 1 = nI c2 := by rw [oI 1 (by decide) (by decide)]; exact h11
        have hcur : (some (Value.ref (w1 1 1).toNatClampNeg) : Option Value) = some (Value.ref c2) := by rw [e11, nI_clamp (by omega)]
        refine ga_iload_n 3 dX9_coast_77 rfl ?_
        refine ga_iconst (nI 2) dX9_coast_78 (by decide) ?_
        refine ga_icmp_ge 98 dX9_coast_79 (by decide) (fun c_79 => absurd c_79 (nI_ge (by omega) (by omega))) (fun c_79 => ?_)
        refine ga_aload_n 0 dX9_coast_82 rfl ?_
        refine ga_get kf_X9_45 (sh1 _) rfl dX9_coast_83 ?_
        refine ga_iload_n 3 dX9_coast_86 rfl ?_
        refine ge_aald sh112 rfl rfl (gt_ixn hi2) (if_pos hi2) dX9_coast_87 ?_
        refine ga_iconst (nI 0) dX9_coast_88 (by decide) ?_
        refine gw_put 2 kp_X9_109 (shIm hi2 _) (shIm hi2 _) rfl rfl (Nat.le_of_ble_eq_true rfl) dX9_coast_89 (fun w_89 o_89 e_89 => ?_)
        refine gs_iincN 3 1 [(0, _), (1, _), (2, _), (3, _)] dX9_coast_92 rfl (by decide) (by decide) rfl rfl ?_
        refine ga_goto 77 dX9_coast_95 (by decide) ?_
        refine ih (t + 1) (by omega) _ (fun a q1 q2 => by rw [o_89 a (by omega)]; exact oI a q1 q2) (fun i hi => ?_) (fun i hi => ?_)
        · by_cases e : i = t
          · rw [e, e_89, upd_ne _ _ (by decide)]; exact hI1 t hi2
          · rw [o_89 _ (by omega)]; exact hI1 i hi
        · by_cases e : i = t
          · rw [e, e_89, upd_eq]
          · rw [o_89 _ (by omega)]; exact hI2 i (by omega)
    exact loop 2 0 (by omega) _ (fun _ _ _ => rfl) (fun _ _ => rfl) (fun i hi => absurd hi (Nat.not_lt_zero i))
  · have hz : ¬ (gx_ri x L).1.2.1 = 0 := fun q => c_24 (by rw [q]; rfl)
    refine ga_bipush ((-10)) dX9_coast_27 (by decide) ?_
    refine ga_iload_n 1 dX9_coast_29 rfl ?_
    refine ga_isub dX9_coast_30 ?_
    exact gd_iret dX9_coast_31 ⟨gv (by unfold aCoast; rw [if_neg hz]), ⟨c, by rw [nCoast_k hz]; exact gx_X_fault hX hc2 hne2 h12 (fun a q1 q2 q3 => by rw [o_20 a q1]; exact o8 a q2 q3) (e1.trans h11.symm) (e2.trans h12.symm) e3 (by rw [o_20 2 (by decide)]; exact h21)⟩, fun a ha => by rw [o_20 a (by omega)]; exact o8 a (by omega) (by omega)⟩
