/-! what is noted -/
def aMark (K Q : gx_K) (a b d : Int32) : Int32 := if gx_in a (nI (K 0 0)) = 0 then gUNK else if gx_wi b (nI 1) (nI 20) = 0 ∨ gx_wi d (nI 0) (nI 999) = 0 then gOUT else if Q 0 0 = 6 then gFUL else nI (Q 0 0 + 1)
def nMark : gx_Z → Int32 → Int32 → Int32 → gx_Z
  | (K, v, hs, cnt, im, sd, x, L, fp, Q), a, b, d => if (gx_in a (nI (K 0 0)) = 0 ∨ gx_wi b (nI 1) (nI 20) = 0 ∨ gx_wi d (nI 0) (nI 999) = 0) ∨ Q 0 0 = 6 then (K, v, hs, cnt, im, sd, x, L, fp, Q) else (K, v, hs, cnt, im, sd, x, L, fp, gx_up (gx_up (gx_up (gx_up Q 0 0 (Q 0 0 + 1)) 1 (Q 0 0) a.toNatClampNeg) 2 (Q 0 0) b.toNatClampNeg) 3 (Q 0 0) d.toNatClampNeg)
def aSee (Q : gx_K) (a b d : Int32) : Int32 := if gx_wi a (nI 0) (nI 99) = 0 ∨ gx_wi b (nI 0) (nI 9) = 0 ∨ gx_wi d (nI 0) (nI 99) = 0 then gOUT else if Q 0 1 = 6 then gFUL else nI (Q 0 1 + 1)
def nSee : gx_Z → Int32 → Int32 → Int32 → gx_Z
  | (K, v, hs, cnt, im, sd, x, L, fp, Q), a, b, d => if (gx_wi a (nI 0) (nI 99) = 0 ∨ gx_wi b (nI 0) (nI 9) = 0 ∨ gx_wi d (nI 0) (nI 99) = 0) ∨ Q 0 1 = 6 then (K, v, hs, cnt, im, sd, x, L, fp, Q) else (K, v, hs, cnt, im, sd, x, L, fp, gx_up (gx_up (gx_up (gx_up Q 0 1 (Q 0 1 + 1)) 4 (Q 0 1) a.toNatClampNeg) 5 (Q 0 1) b.toNatClampNeg) 6 (Q 0 1) d.toNatClampNeg)
def aWrite (K Q : gx_K) (a b : Int32) : Int32 := if gx_in a (nI (K 0 0)) = 0 then gUNK else if gx_wi b (nI 0) (nI 999) = 0 then gOUT else if Q 0 2 = 15 then gFUL else nI (Q 0 2 + 1)
def nWrite : gx_Z → Int32 → Int32 → gx_Z
  | (K, v, hs, cnt, im, sd, x, L, fp, Q), a, b => if (gx_in a (nI (K 0 0)) = 0 ∨ gx_wi b (nI 0) (nI 999) = 0) ∨ Q 0 2 = 15 then (K, v, hs, cnt, im, sd, x, L, fp, Q) else (K, v, hs, cnt, im, sd, x, L, fp, gx_up (gx_up (gx_up Q 0 2 (Q 0 2 + 1)) 7 (Q 0 2) a.toNatClampNeg) 8 (Q 0 2) b.toNatClampNeg)
theorem nMark_k {K V : gx_K} {m : Int32} {hs : Nat → gx_K × Int32} {cnt : Nat} {im : Nat → Nat × (gx_K × Int32) × Nat} {sd : Nat} {x : Nat → Nat} {L fp : Nat} {Q : gx_K} {a b d : Int32} (h : (gx_in a (nI (K 0 0)) = 0 ∨ gx_wi b (nI 1) (nI 20) = 0 ∨ gx_wi d (nI 0) (nI 999) = 0) ∨ Q 0 0 = 6) : nMark (K, (V, m), hs, cnt, im, sd, x, L, fp, Q) a b d = (K, (V, m), hs, cnt, im, sd, x, L, fp, Q) := if_pos h
theorem nMark_g {K V : gx_K} {m : Int32} {hs : Nat → gx_K × Int32} {cnt : Nat} {im : Nat → Nat × (gx_K × Int32) × Nat} {sd : Nat} {x : Nat → Nat} {L fp : Nat} {Q : gx_K} {a b d : Int32} (h : ¬ ((gx_in a (nI (K 0 0)) = 0 ∨ gx_wi b (nI 1) (nI 20) = 0 ∨ gx_wi d (nI 0) (nI 999) = 0) ∨ Q 0 0 = 6)) : nMark (K, (V, m), hs, cnt, im, sd, x, L, fp, Q) a b d = (K, (V, m), hs, cnt, im, sd, x, L, fp, gx_up (gx_up (gx_up (gx_up Q 0 0 (Q 0 0 + 1)) 1 (Q 0 0) a.toNatClampNeg) 2 (Q 0 0) b.toNatClampNeg) 3 (Q 0 0) d.toNatClampNeg) := if_neg h
theorem nSee_k {K V : gx_K} {m : Int32} {hs : Nat → gx_K × Int32} {cnt : Nat} {im : Nat → Nat × (gx_K × Int32) × Nat} {sd : Nat} {x : Nat → Nat} {L fp : Nat} {Q : gx_K} {a b d : Int32} (h : (gx_wi a (nI 0) (nI 99) = 0 ∨ gx_wi b (nI 0) (nI 9) = 0 ∨ gx_wi d (nI 0) (nI 99) = 0) ∨ Q 0 1 = 6) : nSee (K, (V, m), hs, cnt, im, sd, x, L, fp, Q) a b d = (K, (V, m), hs, cnt, im, sd, x, L, fp, Q) := if_pos h
theorem nSee_g {K V : gx_K} {m : Int32} {hs : Nat → gx_K × Int32} {cnt : Nat} {im : Nat → Nat × (gx_K × Int32) × Nat} {sd : Nat} {x : Nat → Nat} {L fp : Nat} {Q : gx_K} {a b d : Int32} (h : ¬ ((gx_wi a (nI 0) (nI 99) = 0 ∨ gx_wi b (nI 0) (nI 9) = 0 ∨ gx_wi d (nI 0) (nI 99) = 0) ∨ Q 0 1 = 6)) : nSee (K, (V, m), hs, cnt, im, sd, x, L, fp, Q) a b d = (K, (V, m), hs, cnt, im, sd, x, L, fp, gx_up (gx_up (gx_up (gx_up Q 0 1 (Q 0 1 + 1)) 4 (Q 0 1) a.toNatClampNeg) 5 (Q 0 1) b.toNatClampNeg) 6 (Q 0 1) d.toNatClampNeg) := if_neg h
theorem nWrite_k {K V : gx_K} {m : Int32} {hs : Nat → gx_K × Int32} {cnt : Nat} {im : Nat → Nat × (gx_K × Int32) × Nat} {sd : Nat} {x : Nat → Nat} {L fp : Nat} {Q : gx_K} {a b : Int32} (h : (gx_in a (nI (K 0 0)) = 0 ∨ gx_wi b (nI 0) (nI 999) = 0) ∨ Q 0 2 = 15) : nWrite (K, (V, m), hs, cnt, im, sd, x, L, fp, Q) a b = (K, (V, m), hs, cnt, im, sd, x, L, fp, Q) := if_pos h
theorem nWrite_g {K V : gx_K} {m : Int32} {hs : Nat → gx_K × Int32} {cnt : Nat} {im : Nat → Nat × (gx_K × Int32) × Nat} {sd : Nat} {x : Nat → Nat} {L fp : Nat} {Q : gx_K} {a b : Int32} (h : ¬ ((gx_in a (nI (K 0 0)) = 0 ∨ gx_wi b (nI 0) (nI 999) = 0) ∨ Q 0 2 = 15)) : nWrite (K, (V, m), hs, cnt, im, sd, x, L, fp, Q) a b = (K, (V, m), hs, cnt, im, sd, x, L, fp, gx_up (gx_up (gx_up Q 0 2 (Q 0 2 + 1)) 7 (Q 0 2) a.toNatClampNeg) 8 (Q 0 2) b.toNatClampNeg) := if_neg h
set_option maxRecDepth 100000 in
set_option maxHeartbeats 4000000 in
theorem c_X9_mark {l : Launch} {G : gt_G} {n : Nat} {w : gt_W} {c : Nat} {K V : gx_K} {m : Int32} {hs : Nat → gx_K × Int32} {cnt : Nat} {im : Nat → Nat × (gx_K × Int32) × Nat} {sd : Nat} {x : Nat → Nat} {L fp : Nat} {Q : gx_K} (hX : gx_X w c K V m hs cnt im sd x L fp Q) (hW : gx_WF K V m hs cnt im sd x L fp Q) (a9 b9 d9 : Int32) : gt_D l G yX9_mark cX9_mark 4 (some .int) 2 n [.ref 1, .int a9, .int b9, .int d9] w (fun r w' => r = some (.int (aMark K Q a9 b9 d9)) ∧ (∃ c', gx_XZ w' c' (nMark (K, (V, m), hs, cnt, im, sd, x, L, fp, Q) a9 b9 d9)) ∧ ∀ a, 161 ≤ a → w' a = w a) := by
  obtain ⟨⟨hc, h11, ⟨c2, hc2, hne2, h12⟩, hfp⟩, hK, hV, hpast, him, hsd, htx, hQ⟩ := id hX
  obtain ⟨kw, vw, vd, hhr, hcnt, hhs, him2, hsd2, hxL, hfp2, qw⟩ := id hW
  have hcur : (some (Value.ref (w 1 1).toNatClampNeg) : Option Value) = some (Value.ref c) := by rw [h11, nI_clamp (by have := gt_isC_lt hc; omega)]
  refine gt_D_of (own := RX9) (nm := "mark") rfl rfl (by decide +kernel) (Nat.le_of_ble_eq_true rfl) ?_
  show gt_A _ _ _ _ _ _ _ _ _ _ _ [(0, .ref 1), (1, .int a9), (2, .int b9), (3, .int d9)] _ _
  refine ga_aload_n 0 dX9_mark_0 rfl ?_
  refine ga_get kf_X9_19 (sh1 _) hcur dX9_mark_1 ?_
  refine ga_iload_n 1 dX9_mark_4 rfl ?_
  refine ga_V1 km_X9_171 kv_X0_hasCell (c_X0_hasCell hc hK.1.1 a9) (shC hc _) rfl rfl (gt_rc0 (by decide)) (Nat.le_of_ble_eq_true rfl) dX9_mark_5 ?_
  refine ga_if_ne 14 dX9_mark_8 (by decide) (fun c_8 => ?_) (fun c_8 => ?_)
  · obtain ⟨k, hk, rfl⟩ := gx_in_of (by have := kw.1; have := kw.2.1; have := kw.2.2.1; have := kw.2.2.2.1; omega) c_8
    have ek : (nI k).toNatClampNeg = k := nI_clamp (by have := kw.1; have := kw.2.1; have := kw.2.2.1; have := kw.2.2.2.1; omega)
    refine ga_iload_n 2 dX9_mark_14 rfl ?_
    refine ga_iconst (nI 1) dX9_mark_15 (by decide) ?_
    refine ga_bipush (nI 20) dX9_mark_16 (by decide) ?_
    refine ga_S3 km_X9_82 kv_X9_within (c_X9_within b9 (nI 1) (nI 20)) (gt_rc0 (by decide)) (Nat.le_of_ble_eq_true rfl) dX9_mark_18 ?_
    refine ga_if_eq 35 dX9_mark_21 (by decide) (fun c_21 => ?_) (fun c_21 => ?_)
    · have hno : gx_wi b9 (nI 1) (nI 20) = 0 ∨ gx_wi d9 (nI 0) (nI 999) = 0 := Or.inl c_21
      refine ga_ldc kc_X9_86 dX9_mark_35 ?_
      exact gd_iret dX9_mark_37 ⟨gv (by unfold aMark; rw [if_neg c_8, if_pos hno]), ⟨c, by rw [nMark_k (Or.inl (Or.inr hno))]; exact hX⟩, fun _ _ => rfl⟩
    · refine ga_iload_n 3 dX9_mark_24 rfl ?_
      refine ga_iconst (nI 0) dX9_mark_25 (by decide) ?_
      refine ga_sipush (nI 999) dX9_mark_26 (by decide) ?_
      refine ga_S3 km_X9_82 kv_X9_within (c_X9_within d9 (nI 0) (nI 999)) (gt_rc0 (by decide)) (Nat.le_of_ble_eq_true rfl) dX9_mark_29 ?_
      refine ga_if_ne 38 dX9_mark_32 (by decide) (fun c_32 => ?_) (fun c_32 => ?_)
      · obtain ⟨u, hul, hu, rfl⟩ := gx_wi_of (by decide) (by decide) c_21
        have eu : (nI u).toNatClampNeg = u := nI_clamp (by omega)
        obtain ⟨v, hvl, hv, rfl⟩ := gx_wi_of (by decide) (by decide) c_32
        have ev : (nI v).toNatClampNeg = v := nI_clamp (by omega)
        refine ga_aload_n 0 dX9_mark_38 rfl ?_
        refine ga_get kf_X9_59 (sh1 _) rfl dX9_mark_39 ?_
        refine ga_iload_n 1 dX9_mark_42 rfl ?_
        refine ga_iload_n 2 dX9_mark_43 rfl ?_
        refine ga_iload_n 3 dX9_mark_44 rfl ?_
        rcases (show Q 0 0 = 6 ∨ Q 0 0 < 6 by have := qw.1; omega) with hfu | hfu
        · refine ga_V3 km_X9_285 kv_X3_addMark (c_X3_addMark_full hQ hfu) (sh114 _) rfl rfl (gt_rc0 (by decide)) (Nat.le_of_ble_eq_true rfl) dX9_mark_45 ?_
          exact gd_iret dX9_mark_48 ⟨gv (by unfold aMark; rw [if_neg c_8, if_neg (fun q => q.elim c_21 c_32), if_pos hfu]), ⟨c, by rw [nMark_k (Or.inr hfu)]; exact hX⟩, fun _ _ => rfl⟩
        · refine gd_V3 km_X9_285 kv_X3_addMark (c_X3_addMark hQ qw hfu) (sh114 _) rfl rfl (gt_rc0 (by decide)) (Nat.le_of_ble_eq_true rfl) dX9_mark_45 (fun r_45 w_45 q_45 => ?_)
          obtain ⟨rfl, o9, hQ9⟩ := q_45
          exact gd_iret dX9_mark_48 ⟨gv (by unfold aMark; rw [if_neg c_8, if_neg (fun q => q.elim c_21 c_32), if_neg (by omega)]), ⟨c, by rw [nMark_g (fun q => q.elim (fun q => q.elim c_8 (fun q => q.elim c_21 c_32)) (fun q => by omega)), ek, eu, ev]; exact gx_X_notes hX o9 hQ9⟩, fun a ha => o9 a (by omega)⟩
      · have hno : gx_wi b9 (nI 1) (nI 20) = 0 ∨ gx_wi d9 (nI 0) (nI 999) = 0 := Or.inr c_32
        refine ga_ldc kc_X9_86 dX9_mark_35 ?_
        exact gd_iret dX9_mark_37 ⟨gv (by unfold aMark; rw [if_neg c_8, if_pos hno]), ⟨c, by rw [nMark_k (Or.inl (Or.inr hno))]; exact hX⟩, fun _ _ => rfl⟩
  · refine ga_ldc kc_X9_175 dX9_mark_11 ?_
    exact gd_iret dX9_mark_13 ⟨gv (by unfold aMark; rw [if_pos c_8]), ⟨c, by rw [nMark_k (Or.inl (Or.inl c_8))]; exact hX⟩, fun _ _ => rfl⟩
set_option maxRecDepth 100000 in
set_option maxHeartbeats 4000000 in
theorem c_X9_see {l : Launch} {G : gt_G} {n : Nat} {w : gt_W} {c : Nat} {K V : gx_K} {m : Int32} {hs : Nat → gx_K × Int32} {cnt : Nat} {im : Nat → Nat × (gx_K × Int32) × Nat} {sd : Nat} {x : Nat → Nat} {L fp : Nat} {Q : gx_K} (hX : gx_X w c K V m hs cnt im sd x L fp Q) (hW : gx_WF K V m hs cnt im sd x L fp Q) (a9 b9 d9 : Int32) : gt_D l G yX9_see cX9_see 4 (some .int) 2 n [.ref 1, .int a9, .int b9, .int d9] w (fun r w' => r = some (.int (aSee Q a9 b9 d9)) ∧ (∃ c', gx_XZ w' c' (nSee (K, (V, m), hs, cnt, im, sd, x, L, fp, Q) a9 b9 d9)) ∧ ∀ a, 161 ≤ a → w' a = w a) := by
  obtain ⟨⟨hc, h11, ⟨c2, hc2, hne2, h12⟩, hfp⟩, hK, hV, hpast, him, hsd, htx, hQ⟩ := id hX
  obtain ⟨kw, vw, vd, hhr, hcnt, hhs, him2, hsd2, hxL, hfp2, qw⟩ := id hW
  have hcur : (some (Value.ref (w 1 1).toNatClampNeg) : Option Value) = some (Value.ref c) := by rw [h11, nI_clamp (by have := gt_isC_lt hc; omega)]
  refine gt_D_of (own := RX9) (nm := "see") rfl rfl (by decide +kernel) (Nat.le_of_ble_eq_true rfl) ?_
  show gt_A _ _ _ _ _ _ _ _ _ _ _ [(0, .ref 1), (1, .int a9), (2, .int b9), (3, .int d9)] _ _
  refine ga_iload_n 1 dX9_see_0 rfl ?_
  refine ga_iconst (nI 0) dX9_see_1 (by decide) ?_
  refine ga_bipush (nI 99) dX9_see_2 (by decide) ?_
  refine ga_S3 km_X9_82 kv_X9_within (c_X9_within a9 (nI 0) (nI 99)) (gt_rc0 (by decide)) (Nat.le_of_ble_eq_true rfl) dX9_see_4 ?_
  refine ga_if_eq 30 dX9_see_7 (by decide) (fun c_7 => ?_) (fun c_7 => ?_)
  · have hno : gx_wi a9 (nI 0) (nI 99) = 0 ∨ gx_wi b9 (nI 0) (nI 9) = 0 ∨ gx_wi d9 (nI 0) (nI 99) = 0 := Or.inl c_7
    refine ga_ldc kc_X9_86 dX9_see_30 ?_
    exact gd_iret dX9_see_32 ⟨gv (by unfold aSee; rw [if_pos hno]), ⟨c, by rw [nSee_k (Or.inl hno)]; exact hX⟩, fun _ _ => rfl⟩
  · refine ga_iload_n 2 dX9_see_10 rfl ?_
    refine ga_iconst (nI 0) dX9_see_11 (by decide) ?_
    refine ga_bipush (nI 9) dX9_see_12 (by decide) ?_
    refine ga_S3 km_X9_82 kv_X9_within (c_X9_within b9 (nI 0) (nI 9)) (gt_rc0 (by decide)) (Nat.le_of_ble_eq_true rfl) dX9_see_14 ?_
    refine ga_if_eq 30 dX9_see_17 (by decide) (fun c_17 => ?_) (fun c_17 => ?_)
    · have hno : gx_wi a9 (nI 0) (nI 99) = 0 ∨ gx_wi b9 (nI 0) (nI 9) = 0 ∨ gx_wi d9 (nI 0) (nI 99) = 0 := Or.inr (Or.inl c_17)
      refine ga_ldc kc_X9_86 dX9_see_30 ?_
      exact gd_iret dX9_see_32 ⟨gv (by unfold aSee; rw [if_pos hno]), ⟨c, by rw [nSee_k (Or.inl hno)]; exact hX⟩, fun _ _ => rfl⟩
    · refine ga_iload_n 3 dX9_see_20 rfl ?_
      refine ga_iconst (nI 0) dX9_see_21 (by decide) ?_
      refine ga_bipush (nI 99) dX9_see_22 (by decide) ?_
      refine ga_S3 km_X9_82 kv_X9_within (c_X9_within d9 (nI 0) (nI 99)) (gt_rc0 (by decide)) (Nat.le_of_ble_eq_true rfl) dX9_see_24 ?_
      refine ga_if_ne 33 dX9_see_27 (by decide) (fun c_27 => ?_) (fun c_27 => ?_)
      · obtain ⟨k, hkl, hk, rfl⟩ := gx_wi_of (by decide) (by decide) c_7
        have ek : (nI k).toNatClampNeg = k := nI_clamp (by omega)
        obtain ⟨u, hul, hu, rfl⟩ := gx_wi_of (by decide) (by decide) c_17
        have eu : (nI u).toNatClampNeg = u := nI_clamp (by omega)
        obtain ⟨v, hvl, hv, rfl⟩ := gx_wi_of (by decide) (by decide) c_27
        have ev : (nI v).toNatClampNeg = v := nI_clamp (by omega)
        refine ga_aload_n 0 dX9_see_33 rfl ?_
        refine ga_get kf_X9_59 (sh1 _) rfl dX9_see_34 ?_
        refine ga_iload_n 1 dX9_see_37 rfl ?_
        refine ga_iload_n 2 dX9_see_38 rfl ?_
        refine ga_iload_n 3 dX9_see_39 rfl ?_
        rcases (show Q 0 1 = 6 ∨ Q 0 1 < 6 by have := qw.1; omega) with hfu | hfu
        · refine ga_V3 km_X9_292 kv_X3_addSeen (c_X3_addSeen_full hQ hfu) (sh114 _) rfl rfl (gt_rc0 (by decide)) (Nat.le_of_ble_eq_true rfl) dX9_see_40 ?_
          exact gd_iret dX9_see_43 ⟨gv (by unfold aSee; rw [if_neg (fun q => q.elim c_7 (fun q => q.elim c_17 c_27)), if_pos hfu]), ⟨c, by rw [nSee_k (Or.inr hfu)]; exact hX⟩, fun _ _ => rfl⟩
        · refine gd_V3 km_X9_292 kv_X3_addSeen (c_X3_addSeen hQ qw hfu) (sh114 _) rfl rfl (gt_rc0 (by decide)) (Nat.le_of_ble_eq_true rfl) dX9_see_40 (fun r_40 w_40 q_40 => ?_)
          obtain ⟨rfl, o9, hQ9⟩ := q_40
          exact gd_iret dX9_see_43 ⟨gv (by unfold aSee; rw [if_neg (fun q => q.elim c_7 (fun q => q.elim c_17 c_27)), if_neg (by omega)]), ⟨c, by rw [nSee_g (fun q => q.elim (fun q => q.elim c_7 (fun q => q.elim c_17 c_27)) (fun q => by omega)), ek, eu, ev]; exact gx_X_notes hX o9 hQ9⟩, fun a ha => o9 a (by omega)⟩
      · have hno : gx_wi a9 (nI 0) (nI 99) = 0 ∨ gx_wi b9 (nI 0) (nI 9) = 0 ∨ gx_wi d9 (nI 0) (nI 99) = 0 := Or.inr (Or.inr c_27)
        refine ga_ldc kc_X9_86 dX9_see_30 ?_
        exact gd_iret dX9_see_32 ⟨gv (by unfold aSee; rw [if_pos hno]), ⟨c, by rw [nSee_k (Or.inl hno)]; exact hX⟩, fun _ _ => rfl⟩
set_option maxRecDepth 100000 in
set_option maxHeartbeats 4000000 in
theorem c_X9_write {l : Launch} {G : gt_G} {n : Nat} {w : gt_W} {c : Nat} {K V : gx_K} {m : Int32} {hs : Nat → gx_K × Int32} {cnt : Nat} {im : Nat → Nat × (gx_K × Int32) × Nat} {sd : Nat} {x : Nat → Nat} {L fp : Nat} {Q : gx_K} (hX : gx_X w c K V m hs cnt im sd x L fp Q) (hW : gx_WF K V m hs cnt im sd x L fp Q) (a9 b9 : Int32) : gt_D l G yX9_write cX9_write 3 (some .int) 2 n [.ref 1, .int a9, .int b9] w (fun r w' => r = some (.int (aWrite K Q a9 b9)) ∧ (∃ c', gx_XZ w' c' (nWrite (K, (V, m), hs, cnt, im, sd, x, L, fp, Q) a9 b9)) ∧ ∀ a, 161 ≤ a → w' a = w a) := by
  obtain ⟨⟨hc, h11, ⟨c2, hc2, hne2, h12⟩, hfp⟩, hK, hV, hpast, him, hsd, htx, hQ⟩ := id hX
  obtain ⟨kw, vw, vd, hhr, hcnt, hhs, him2, hsd2, hxL, hfp2, qw⟩ := id hW
  have hcur : (some (Value.ref (w 1 1).toNatClampNeg) : Option Value) = some (Value.ref c) := by rw [h11, nI_clamp (by have := gt_isC_lt hc; omega)]
  refine gt_D_of (own := RX9) (nm := "write") rfl rfl (by decide +kernel) (Nat.le_of_ble_eq_true rfl) ?_
  show gt_A _ _ _ _ _ _ _ _ _ _ _ [(0, .ref 1), (1, .int a9), (2, .int b9)] _ _
  refine ga_aload_n 0 dX9_write_0 rfl ?_
  refine ga_get kf_X9_19 (sh1 _) hcur dX9_write_1 ?_
  refine ga_iload_n 1 dX9_write_4 rfl ?_
  refine ga_V1 km_X9_171 kv_X0_hasCell (c_X0_hasCell hc hK.1.1 a9) (shC hc _) rfl rfl (gt_rc0 (by decide)) (Nat.le_of_ble_eq_true rfl) dX9_write_5 ?_
  refine ga_if_ne 14 dX9_write_8 (by decide) (fun c_8 => ?_) (fun c_8 => ?_)
  · obtain ⟨k, hk, rfl⟩ := gx_in_of (by have := kw.1; have := kw.2.1; have := kw.2.2.1; have := kw.2.2.2.1; omega) c_8
    have ek : (nI k).toNatClampNeg = k := nI_clamp (by have := kw.1; have := kw.2.1; have := kw.2.2.1; have := kw.2.2.2.1; omega)
    refine ga_iload_n 2 dX9_write_14 rfl ?_
    refine ga_iconst (nI 0) dX9_write_15 (by decide) ?_
    refine ga_sipush (nI 999) dX9_write_16 (by decide) ?_
    refine ga_S3 km_X9_82 kv_X9_within (c_X9_within b9 (nI 0) (nI 999)) (gt_rc0 (by decide)) (Nat.le_of_ble_eq_true rfl) dX9_write_19 ?_
    refine ga_if_ne 28 dX9_write_22 (by decide) (fun c_22 => ?_) (fun c_22 => ?_)
    · obtain ⟨u, hul, hu, rfl⟩ := gx_wi_of (by decide) (by decide) c_22
      have eu : (nI u).toNatClampNeg = u := nI_clamp (by omega)
      refine ga_aload_n 0 dX9_write_28 rfl ?_
      refine ga_get kf_X9_59 (sh1 _) rfl dX9_write_29 ?_
      refine ga_iload_n 1 dX9_write_32 rfl ?_
      refine ga_iload_n 2 dX9_write_33 rfl ?_
      rcases (show Q 0 2 = 15 ∨ Q 0 2 < 15 by have := qw.1; omega) with hfu | hfu
      · refine ga_V2 km_X9_295 kv_X3_addEntry (c_X3_addEntry_full hQ hfu) (sh114 _) rfl rfl (gt_rc0 (by decide)) (Nat.le_of_ble_eq_true rfl) dX9_write_34 ?_
        exact gd_iret dX9_write_37 ⟨gv (by unfold aWrite; rw [if_neg c_8, if_neg c_22, if_pos hfu]), ⟨c, by rw [nWrite_k (Or.inr hfu)]; exact hX⟩, fun _ _ => rfl⟩
      · refine gd_V2 km_X9_295 kv_X3_addEntry (c_X3_addEntry hQ qw hfu) (sh114 _) rfl rfl (gt_rc0 (by decide)) (Nat.le_of_ble_eq_true rfl) dX9_write_34 (fun r_34 w_34 q_34 => ?_)
        obtain ⟨rfl, o9, hQ9⟩ := q_34
        exact gd_iret dX9_write_37 ⟨gv (by unfold aWrite; rw [if_neg c_8, if_neg c_22, if_neg (by omega)]), ⟨c, by rw [nWrite_g (fun q => q.elim (fun q => q.elim c_8 c_22) (fun q => by omega)), ek, eu]; exact gx_X_notes hX o9 hQ9⟩, fun a ha => o9 a (by omega)⟩
    · refine ga_ldc kc_X9_86 dX9_write_25 ?_
      exact gd_iret dX9_write_27 ⟨gv (by unfold aWrite; rw [if_neg c_8, if_pos c_22]), ⟨c, by rw [nWrite_k (Or.inl (Or.inr c_22))]; exact hX⟩, fun _ _ => rfl⟩
  · refine ga_ldc kc_X9_175 dX9_write_11 ?_
    exact gd_iret dX9_write_13 ⟨gv (by unfold aWrite; rw [if_pos c_8]), ⟨c, by rw [nWrite_k (Or.inl (Or.inl c_8))]; exact hX⟩, fun _ _ => rfl⟩
def aFeed (L : Nat) (a : Int32) : Int32 := if gx_wi a (nI 0) (nI 255) = 0 then gOUT else if L = 240 then gFUL else nI (L + 1)
def gx_fd (x : Nat → Nat) (L v : Nat) : Nat → Nat := fun j => if j = L then v else x j
def nFeed : gx_Z → Int32 → gx_Z
  | (K, v, hs, cnt, im, sd, x, L, fp, Q), a => if gx_wi a (nI 0) (nI 255) = 0 ∨ L = 240 then (K, v, hs, cnt, im, sd, x, L, fp, Q) else (K, v, hs, cnt, im, sd, gx_fd x L a.toNatClampNeg, L + 1, fp, Q)
theorem nFeed_k {K V : gx_K} {m : Int32} {hs : Nat → gx_K × Int32} {cnt : Nat} {im : Nat → Nat × (gx_K × Int32) × Nat} {sd : Nat} {x : Nat → Nat} {L fp : Nat} {Q : gx_K} {a : Int32} (h : gx_wi a (nI 0) (nI 255) = 0 ∨ L = 240) : nFeed (K, (V, m), hs, cnt, im, sd, x, L, fp, Q) a = (K, (V, m), hs, cnt, im, sd, x, L, fp, Q) := if_pos h
theorem nFeed_g {K V : gx_K} {m : Int32} {hs : Nat → gx_K × Int32} {cnt : Nat} {im : Nat → Nat × (gx_K × Int32) × Nat} {sd : Nat} {x : Nat → Nat} {L fp : Nat} {Q : gx_K} {a : Int32} (h : ¬ (gx_wi a (nI 0) (nI 255) = 0 ∨ L = 240)) : nFeed (K, (V, m), hs, cnt, im, sd, x, L, fp, Q) a = (K, (V, m), hs, cnt, im, sd, gx_fd x L a.toNatClampNeg, L + 1, fp, Q) := if_neg h
theorem gx_X_text {w w' : gt_W} {c : Nat} {K V : gx_K} {m : Int32} {hs : Nat → gx_K × Int32} {cnt : Nat} {im : Nat → Nat × (gx_K × Int32) × Nat} {sd : Nat} {x : Nat → Nat} {L fp : Nat} {Q : gx_K} {x2 : Nat → Nat} {L2 : Nat} (hX : gx_X w c K V m hs cnt im sd x L fp Q) (o : ∀ a, a ≠ 2 → a ≠ 3 → w' a = w a) (ht : w' 2 1 = nI L2 ∧ ∀ j, j < L2 → w' 3 j = nI (x2 j)) : gx_X w' c K V m hs cnt im sd x2 L2 fp Q := by
  obtain ⟨⟨hc, h11, h12, hfp⟩, hK, hV, ⟨nx, hx, h1, h2, h3⟩, him, hsd, htx, hQ⟩ := hX
  have hl := gt_isC_lt hc
  refine ⟨⟨hc, by rw [o 1 (by omega) (by omega)]; exact h11, by rw [o 1 (by omega) (by omega)]; exact h12, by rw [o 1 (by omega) (by omega)]; exact hfp⟩, gx_Co_eq9 hc (fun a ha => o a (by omega) (by omega)) hK, gx_St_eq (fun a q1 q2 => o a (by omega) (by omega)) hV, ⟨nx, hx, by rw [o 30 (by omega) (by omega)]; exact h1, by rw [o 30 (by omega) (by omega)]; exact h2, fun k hk => gx_St_eq (fun a q1 q2 => o a (by omega) (by omega)) (h3 k hk)⟩, fun i hi => ?_, by rw [o 113 (by omega) (by omega)]; exact hsd, ht, gx_No_eq (fun a q1 q2 => o a (by omega) (by omega)) hQ⟩
  have h := him i hi
  exact ⟨by rw [o (149 + 6 * i) (by omega) (by omega)]; exact h.1, by rw [o (149 + 6 * i) (by omega) (by omega)]; exact h.2.1, fun q => gx_St_eq (fun a q1 q2 => o a (by omega) (by omega)) (h.2.2 q)⟩
set_option maxRecDepth 100000 in
set_option maxHeartbeats 4000000 in
theorem c_X9_feed {l : Launch} {G : gt_G} {n : Nat} {w : gt_W} {c : Nat} {K V : gx_K} {m : Int32} {hs : Nat → gx_K × Int32} {cnt : Nat} {im : Nat → Nat × (gx_K × Int32) × Nat} {sd : Nat} {x : Nat → Nat} {L fp : Nat} {Q : gx_K} (hX : gx_X w c K V m hs cnt im sd x L fp Q) (hW : gx_WF K V m hs cnt im sd x L fp Q) (a9 : Int32) : gt_D l G yX9_feed cX9_feed 2 (some .int) 2 n [.ref 1, .int a9] w (fun r w' => r = some (.int (aFeed L a9)) ∧ (∃ c', gx_XZ w' c' (nFeed (K, (V, m), hs, cnt, im, sd, x, L, fp, Q) a9)) ∧ ∀ a, 161 ≤ a → w' a = w a) := by
  obtain ⟨⟨hc, h11, ⟨c2, hc2, hne2, h12⟩, hfp⟩, hK, hV, hpast, him, hsd, htx, hQ⟩ := id hX
  obtain ⟨kw, vw, vd, hhr, hcnt, hhs, him2, hsd2, hxL, hfp2, qw⟩ := id hW
  have hcur : (some (Value.ref (w 1 1).toNatClampNeg) : Option Value) = some (Value.ref c) := by rw [h11, nI_clamp (by have := gt_isC_lt hc; omega)]
  refine gt_D_of (own := RX9) (nm := "feed") rfl rfl (by decide +kernel) (Nat.le_of_ble_eq_true rfl) ?_
  show gt_A _ _ _ _ _ _ _ _ _ _ _ [(0, .ref 1), (1, .int a9)] _ _
  refine ga_iload_n 1 dX9_feed_0 rfl ?_
  refine ga_iconst (nI 0) dX9_feed_1 (by decide) ?_
  refine ga_sipush (nI 255) dX9_feed_2 (by decide) ?_
  refine ga_S3 km_X9_82 kv_X9_within (c_X9_within a9 (nI 0) (nI 255)) (gt_rc0 (by decide)) (Nat.le_of_ble_eq_true rfl) dX9_feed_5 ?_
  refine ga_if_ne 14 dX9_feed_8 (by decide) (fun c_8 => ?_) (fun c_8 => ?_)
  · obtain ⟨u, hul, hu, rfl⟩ := gx_wi_of (by decide) (by decide) c_8
    have eu : (nI u).toNatClampNeg = u := nI_clamp (by omega)
    refine ga_aload_n 0 dX9_feed_14 rfl ?_
    refine ga_get kf_X9_10 (sh1 _) rfl dX9_feed_15 ?_
    refine ga_iload_n 1 dX9_feed_18 rfl ?_
    rcases (show L = 240 ∨ L < 240 by have := hxL.1; omega) with hfu | hfu
    · refine ga_V1 km_X9_87 kv_X6_add (c_X6_add_full (by rw [← hfu]; exact htx.1)) (sh2 _) rfl rfl (gt_rc0 (by decide)) (Nat.le_of_ble_eq_true rfl) dX9_feed_19 ?_
      exact gd_iret dX9_feed_22 ⟨gv (by unfold aFeed; rw [if_neg c_8, if_pos hfu]), ⟨c, by rw [nFeed_k (Or.inr hfu)]; exact hX⟩, fun _ _ => rfl⟩
    · refine gd_V1 km_X9_87 kv_X6_add (c_X6_add htx.1 hfu) (sh2 _) rfl rfl (gt_rc0 (by decide)) (Nat.le_of_ble_eq_true rfl) dX9_feed_19 (fun r_19 w_19 q_19 => ?_)
      obtain ⟨rfl, o9, e3, e2⟩ := q_19
      exact gd_iret dX9_feed_22 ⟨gv (by unfold aFeed; rw [if_neg c_8, if_neg (by omega)]), ⟨c, by rw [nFeed_g (fun q => q.elim c_8 (fun q => by omega)), eu]; exact gx_X_text hX o9 ⟨by rw [e2, upd_eq], fun j hj => by
              rw [e3]; show upd (w 3) L (nI u) j = nI (if j = L then u else x j); by_cases e : j = L
              · rw [if_pos e, e, upd_eq]
              · rw [if_neg e, upd_ne _ _ e]; exact htx.2 j (by have hj : j < L + 1 := hj; omega)⟩⟩, fun a ha => o9 a (by omega) (by omega)⟩
  · refine ga_ldc kc_X9_86 dX9_feed_11 ?_
    exact gd_iret dX9_feed_13 ⟨gv (by unfold aFeed; rw [if_pos c_8]), ⟨c, by rw [nFeed_k (Or.inl c_8)]; exact hX⟩, fun _ _ => rfl⟩
