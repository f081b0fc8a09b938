/-! EACH CALL LEAVES A STATE THAT IS WELL FORMED -/
def gx_WZ (S : gx_Z) : Prop := gx_WF S.1 S.2.1.1 S.2.1.2 S.2.2.1 S.2.2.2.1 S.2.2.2.2.1 S.2.2.2.2.2.1 S.2.2.2.2.2.2.1 S.2.2.2.2.2.2.2.1 S.2.2.2.2.2.2.2.2.1 S.2.2.2.2.2.2.2.2.2
theorem gx_ph_ok {K : gx_K} {hs : Nat → gx_K × Int32} {cnt : Nat} {v : gx_K × Int32} (h : ∀ k, k < cnt → gx_Sw K (hs k)) (hc : cnt ≤ 16) (hv : gx_Sw K v) : ∀ k, k < min 16 (cnt + 1) → gx_Sw K (gx_ph hs cnt v k) := by
  intro k hk
  unfold gx_ph
  by_cases q : cnt < 16
  · rw [if_pos q]
    by_cases e : k = cnt
    · rw [if_pos e]; exact hv
    · rw [if_neg e]; exact h k (by omega)
  · rw [if_neg q]
    by_cases e : k = 15
    · rw [if_pos e]; exact hv
    · rw [if_neg e]; exact h (k + 1) (by omega)
section WFS
variable {K V : gx_K} {m : Int32} {hs : Nat → gx_K × Int32} {cnt : Nat} {im : Nat → Nat × (gx_K × Int32) × Nat} {sd : Nat} {x : Nat → Nat} {L fp : Nat} {Q : gx_K}
theorem gx_wf_push {V' : gx_K} {m' : Int32} {sd' : Nat} (hW : gx_WF K V m hs cnt im sd x L fp Q) (h1 : gx_VW K V') (h2 : gx_Vd K V') (h3 : V' 0 0 ≤ 9060) (h4 : sd' < 2147483648) : gx_WF K V' m' (gx_ph hs cnt (V, m)) (min 16 (cnt + 1)) im sd' x L fp Q := by
  obtain ⟨kw, vw, vd, hh, hc, hhs, him, hsd, htx, hfp, qw⟩ := hW
  exact ⟨kw, h1, h2, h3, Nat.min_le_left _ _, gx_ph_ok hhs hc ⟨vw, vd, hh⟩, him, h4, htx, hfp, qw⟩
theorem gx_wz (h : gx_WF K V m hs cnt im sd x L fp Q) : gx_WZ (K, (V, m), hs, cnt, im, sd, x, L, fp, Q) := h
theorem gx_ws_sit (hW : gx_WF K V m hs cnt im sd x L fp Q) (a t : Int32) : gx_WZ (nSit (K, (V, m), hs, cnt, im, sd, x, L, fp, Q) a t) := by
  have hW0 := hW
  obtain ⟨kw, vw, vd, hh, hc, hhs, him, hsd, htx, hfp, qw⟩ := hW
  have k1 := kw.2.1
  by_cases q : gx_in a (nI (K 0 2)) = 0 ∨ gx_in t (nI (K 0 1)) = 0 ∨ ¬ gx_free K V t.toNatClampNeg
  · rw [show nSit (K, (V, m), hs, cnt, im, sd, x, L, fp, Q) a t = _ from if_pos q]; exact hW0
  · rw [show nSit (K, (V, m), hs, cnt, im, sd, x, L, fp, Q) a t = _ from if_neg q]
    have q2 : ¬ gx_in t (nI (K 0 1)) = 0 := fun z => q (Or.inr (Or.inl z))
    have q3 : gx_free K V t.toNatClampNeg := Decidable.byContradiction fun z => q (Or.inr (Or.inr z))
    obtain ⟨k, hk, rfl⟩ := gx_in_of (by omega) q2
    rw [nI_clamp (by omega)] at q3 ⊢
    refine gx_wz ?_
    exact gx_wf_push hW0 (gx_up2_VW vw hk) (gx_up2_Vd vd (Or.inr q3)) (Nat.le_trans (Nat.le_of_eq (gx_up_row (by decide))) hh) hsd
theorem gx_ws_rest (hW : gx_WF K V m hs cnt im sd x L fp Q) (a : Int32) : gx_WZ (nRest (K, (V, m), hs, cnt, im, sd, x, L, fp, Q) a) := by
  have hW0 := hW
  obtain ⟨kw, vw, vd, hh, hc, hhs, him, hsd, htx, hfp, qw⟩ := hW
  by_cases q : gx_in a (nI (K 0 2)) = 0 ∨ V 2 a.toNatClampNeg = 0
  · rw [show nRest (K, (V, m), hs, cnt, im, sd, x, L, fp, Q) a = _ from if_pos q]; exact hW0
  · rw [show nRest (K, (V, m), hs, cnt, im, sd, x, L, fp, Q) a = _ from if_neg q]
    refine gx_wz ?_
    exact gx_wf_push hW0 (gx_up2_VW vw (Nat.zero_le _)) (gx_up2_Vd vd (Or.inl rfl)) (Nat.le_trans (Nat.le_of_eq (gx_up_row (by decide))) hh) hsd
theorem gx_ws_sleep (hW : gx_WF K V m hs cnt im sd x L fp Q) (a b : Int32) : gx_WZ (nSleep (K, (V, m), hs, cnt, im, sd, x, L, fp, Q) a b) := by
  have hW0 := hW
  obtain ⟨kw, vw, vd, hh, hc, hhs, him, hsd, htx, hfp, qw⟩ := hW
  by_cases q : gx_in a (nI (K 0 2)) = 0
  · rw [show nSleep (K, (V, m), hs, cnt, im, sd, x, L, fp, Q) a b = _ from if_pos q]; exact hW0
  · rw [show nSleep (K, (V, m), hs, cnt, im, sd, x, L, fp, Q) a b = _ from if_neg q]
    refine gx_wz ?_
    exact gx_wf_push hW0 vw vd hh hsd
theorem gx_ws_turn (hW : gx_WF K V m hs cnt im sd x L fp Q) (a v : Int32) : gx_WZ (nTurn (K, (V, m), hs, cnt, im, sd, x, L, fp, Q) a v) := by
  have hW0 := hW
  obtain ⟨kw, vw, vd, hh, hc, hhs, him, hsd, htx, hfp, qw⟩ := hW
  by_cases q : gx_in a (nI (K 0 1)) = 0 ∨ gx_wi v (nI 0) (nI 99) = 0
  · rw [show nTurn (K, (V, m), hs, cnt, im, sd, x, L, fp, Q) a v = _ from if_pos q]; exact hW0
  · rw [show nTurn (K, (V, m), hs, cnt, im, sd, x, L, fp, Q) a v = _ from if_neg q]
    obtain ⟨k, _, hk, rfl⟩ := gx_wi_of (by decide) (by decide) (fun z => q (Or.inr z))
    rw [nI_clamp (by omega)]
    refine gx_wz ?_
    exact gx_wf_push hW0 (gx_up1_VW vw hk) (gx_Vd_of (fun j => gx_up_row (by decide)) vd) (Nat.le_trans (Nat.le_of_eq (gx_up_row (by decide))) hh) hsd
theorem gx_ws_send (hW : gx_WF K V m hs cnt im sd x L fp Q) (a : Int32) : gx_WZ (nSend (K, (V, m), hs, cnt, im, sd, x, L, fp, Q) a) := by
  have hW0 := hW
  obtain ⟨kw, vw, vd, hh, hc, hhs, him, hsd, htx, hfp, qw⟩ := hW
  have k3 := kw.2.2.2.1
  by_cases q : gx_in a (nI (K 0 3)) = 0
  · rw [show nSend (K, (V, m), hs, cnt, im, sd, x, L, fp, Q) a = _ from if_pos q]; exact hW0
  · rw [show nSend (K, (V, m), hs, cnt, im, sd, x, L, fp, Q) a = _ from if_neg q]
    obtain ⟨k, hk, rfl⟩ := gx_in_of (by omega) q
    rw [nI_clamp (by omega)]
    refine gx_wz ?_
    refine gx_wf_push hW0 ⟨Nat.zero_le _, fun j hj => by rw [gx_up_row (by decide)]; exact vw.2.1 j hj, fun j hj => by rw [gx_up_row (by decide)]; exact vw.2.2.1 j hj, fun j hj => by rw [gx_up_row (by decide)]; exact vw.2.2.2.1 j hj, fun j hj => ?_⟩ (gx_Vd_of (fun j => gx_up_row (by decide)) vd) (Nat.le_trans (Nat.le_of_eq (gx_up_row (by decide))) hh) hsd
    by_cases e : j = k
    · rw [e, gx_up_eq]; exact kw.2.2.2.2.2.2.2.2.2.1 k hk
    · rw [gx_up_col e]; exact vw.2.2.2.2 j hj
theorem gx_ws_hour (hW : gx_WF K V m hs cnt im sd x L fp Q) (a : Int32) : gx_WZ (nHour (K, (V, m), hs, cnt, im, sd, x, L, fp, Q) a) := by
  have hW0 := hW
  obtain ⟨kw, vw, vd, hh, hc, hhs, him, hsd, htx, hfp, qw⟩ := hW
  by_cases q : gx_refuse K V a = 0
  · rw [nHour_g q]
    obtain ⟨⟨k, h1, h2, rfl⟩, h3, h4⟩ := gx_refuse_of q
    rw [nI_clamp (by omega)]
    refine gx_wz ?_
    exact gx_wf_push hW0 (gx_hn_VW kw vw k) (gx_Vd_of (fun j => gx_hn_s j k) vd) (by rw [gx_hn_h]; omega) hsd
  · rw [nHour_k q]; exact hW0
theorem gx_ws_drift (hW : gx_WF K V m hs cnt im sd x L fp Q) (a : Int32) : gx_WZ (nDrift (K, (V, m), hs, cnt, im, sd, x, L, fp, Q) a) := by
  have hW0 := hW
  obtain ⟨kw, vw, vd, hh, hc, hhs, him, hsd, htx, hfp, qw⟩ := hW
  by_cases q : gx_refuse K V a = 0
  · rw [nDrift_g q]
    obtain ⟨⟨k, h1, h2, rfl⟩, h3, h4⟩ := gx_refuse_of q
    rw [nI_clamp (by omega)]
    have h9 := gx_dn_ok (m := m) kw vw vd hsd k
    refine gx_wz ?_
    exact gx_wf_push hW0 h9.1 h9.2.1 (by rw [h9.2.2.1]; omega) h9.2.2.2
  · rw [nDrift_k q]; exact hW0
theorem gx_ws_undo (hW : gx_WF K V m hs cnt im sd x L fp Q) : gx_WZ (nUndo (K, (V, m), hs, cnt, im, sd, x, L, fp, Q)) := by
  have hW0 := hW
  obtain ⟨kw, vw, vd, hh, hc, hhs, him, hsd, htx, hfp, qw⟩ := hW
  by_cases q : cnt = 0
  · rw [nUndo_k q]; exact hW0
  · rw [nUndo_g q]
    have h := hhs (cnt - 1) (by omega)
    exact ⟨kw, h.1, h.2.1, h.2.2, by show cnt - 1 ≤ 16; omega, fun k hk => hhs k (by have hk : k < cnt - 1 := hk; omega), him, hsd, htx, hfp, qw⟩
theorem gx_clamp_lt (a : Int32) : a.toNatClampNeg < 2147483648 := by
  by_cases h : a < 0
  · have : a.toNatClampNeg = 0 := by
      have h1 : a.toInt < 0 := Int32.lt_iff_toInt_lt.mp h
      show a.toInt.toNat = 0
      omega
    omega
  · obtain ⟨j, hj, rfl⟩ := nI_of h
    rw [nI_clamp hj]; exact hj
theorem gx_ws_seed (hW : gx_WF K V m hs cnt im sd x L fp Q) (a : Int32) : gx_WZ (nSeed (K, (V, m), hs, cnt, im, sd, x, L, fp, Q) a) := by
  have hW0 := hW
  obtain ⟨kw, vw, vd, hh, hc, hhs, him, hsd, htx, hfp, qw⟩ := hW
  by_cases q : a < 0
  · rw [nSeed_k q]; exact hW0
  · rw [nSeed_g q]
    exact ⟨kw, vw, vd, hh, hc, hhs, him, gx_clamp_lt a, htx, hfp, qw⟩
theorem gx_Q0_W : gx_QW K (gx_Q0 Q) := ⟨⟨Nat.zero_le _, Nat.zero_le _, Nat.zero_le _⟩, fun j hj => absurd hj (Nat.not_lt_zero j), fun j hj => absurd hj (Nat.not_lt_zero j), fun j hj => absurd hj (Nat.not_lt_zero j)⟩
theorem gx_ws_tear (hW : gx_WF K V m hs cnt im sd x L fp Q) : gx_WZ (nTear (K, (V, m), hs, cnt, im, sd, x, L, fp, Q)) := by
  obtain ⟨kw, vw, vd, hh, hc, hhs, him, hsd, htx, hfp, qw⟩ := hW
  exact ⟨kw, vw, vd, hh, hc, hhs, him, hsd, htx, hfp, gx_Q0_W⟩
theorem gx_ws_mark (hW : gx_WF K V m hs cnt im sd x L fp Q) (a b d : Int32) : gx_WZ (nMark (K, (V, m), hs, cnt, im, sd, x, L, fp, Q) a b d) := by
  have hW0 := hW
  obtain ⟨kw, vw, vd, hh, hc, hhs, him, hsd, htx, hfp, qw⟩ := hW
  have k0 := kw.1
  by_cases q : (gx_in a (nI (K 0 0)) = 0 ∨ gx_wi b (nI 1) (nI 20) = 0 ∨ gx_wi d (nI 0) (nI 999) = 0) ∨ Q 0 0 = 6
  · rw [show nMark (K, (V, m), hs, cnt, im, sd, x, L, fp, Q) a b d = _ from if_pos q]; exact hW0
  · rw [show nMark (K, (V, m), hs, cnt, im, sd, x, L, fp, Q) a b d = _ from if_neg q]
    obtain ⟨A, hA, rfl⟩ := gx_in_of (by omega) (fun z => q (Or.inl (Or.inl z)))
    obtain ⟨B, hB1, hB2, rfl⟩ := gx_wi_of (by decide) (by decide) (fun z => q (Or.inl (Or.inr (Or.inl z))))
    obtain ⟨D, _, hD, rfl⟩ := gx_wi_of (by decide) (by decide) (fun z => q (Or.inl (Or.inr (Or.inr z))))
    have q6 : ¬ Q 0 0 = 6 := fun z => q (Or.inr z)
    rw [nI_clamp (by omega), nI_clamp (by omega), nI_clamp (by omega)]
    refine ⟨kw, vw, vd, hh, hc, hhs, him, hsd, htx, hfp, ?_⟩
    obtain ⟨⟨q1, q2, q3⟩, m1, m2, m3⟩ := qw
    show gx_QW K (gx_up (gx_up (gx_up (gx_up Q 0 0 (Q 0 0 + 1)) 1 (Q 0 0) A) 2 (Q 0 0) B) 3 (Q 0 0) D)
    have e0 : ∀ j, gx_up (gx_up (gx_up (gx_up Q 0 0 (Q 0 0 + 1)) 1 (Q 0 0) A) 2 (Q 0 0) B) 3 (Q 0 0) D 0 j = if j = 0 then Q 0 0 + 1 else Q 0 j := fun j => by
      rw [gx_up_row (by decide), gx_up_row (by decide), gx_up_row (by decide)]
      by_cases e : j = 0
      · rw [if_pos e, e, gx_up_eq]
      · rw [if_neg e, gx_up_col e]
    have e4 : ∀ i j, 3 < i → gx_up (gx_up (gx_up (gx_up Q 0 0 (Q 0 0 + 1)) 1 (Q 0 0) A) 2 (Q 0 0) B) 3 (Q 0 0) D i j = Q i j := fun i j hi => by
      rw [gx_up_row (by omega), gx_up_row (by omega), gx_up_row (by omega), gx_up_row (by omega)]
    refine ⟨⟨by rw [e0, if_pos rfl]; omega, by rw [e0, if_neg (by decide)]; exact q2, by rw [e0, if_neg (by decide)]; exact q3⟩, fun j hj => ?_, fun j hj => ?_, fun j hj => ?_⟩
    · rw [e0, if_pos rfl] at hj
      by_cases e : j = Q 0 0
      · subst e
        rw [gx_up_eq, gx_up_row (a := 2) (by decide), gx_up_eq, gx_up_row (a := 1) (by decide), gx_up_row (a := 1) (by decide), gx_up_eq]
        exact ⟨hA, hB1, hB2, hD⟩
      · rw [gx_up_col e, gx_up_col e, gx_up_col e, gx_up_row (a := 1) (by decide), gx_up_col e, gx_up_col e, gx_up_row (a := 2) (by decide), gx_up_row (a := 2) (by decide), gx_up_col e, gx_up_row (a := 3) (by decide), gx_up_row (a := 3) (by decide), gx_up_row (a := 3) (by decide)]
        exact m1 j (by omega)
    · rw [e0, if_neg (by decide)] at hj
      rw [e4 4 j (by decide), e4 5 j (by decide), e4 6 j (by decide)]
      exact m2 j hj
    · rw [e0, if_neg (by decide)] at hj
      rw [e4 7 j (by decide), e4 8 j (by decide)]
      exact m3 j hj
theorem gx_ws_see (hW : gx_WF K V m hs cnt im sd x L fp Q) (a b d : Int32) : gx_WZ (nSee (K, (V, m), hs, cnt, im, sd, x, L, fp, Q) a b d) := by
  have hW0 := hW
  obtain ⟨kw, vw, vd, hh, hc, hhs, him, hsd, htx, hfp, qw⟩ := hW
  by_cases q : (gx_wi a (nI 0) (nI 99) = 0 ∨ gx_wi b (nI 0) (nI 9) = 0 ∨ gx_wi d (nI 0) (nI 99) = 0) ∨ Q 0 1 = 6
  · rw [show nSee (K, (V, m), hs, cnt, im, sd, x, L, fp, Q) a b d = _ from if_pos q]; exact hW0
  · rw [show nSee (K, (V, m), hs, cnt, im, sd, x, L, fp, Q) a b d = _ from if_neg q]
    obtain ⟨A, _, hA, rfl⟩ := gx_wi_of (by decide) (by decide) (fun z => q (Or.inl (Or.inl z)))
    obtain ⟨B, _, hB, rfl⟩ := gx_wi_of (by decide) (by decide) (fun z => q (Or.inl (Or.inr (Or.inl z))))
    obtain ⟨D, _, hD, rfl⟩ := gx_wi_of (by decide) (by decide) (fun z => q (Or.inl (Or.inr (Or.inr z))))
    have q6 : ¬ Q 0 1 = 6 := fun z => q (Or.inr z)
    rw [nI_clamp (by omega), nI_clamp (by omega), nI_clamp (by omega)]
    refine ⟨kw, vw, vd, hh, hc, hhs, him, hsd, htx, hfp, ?_⟩
    obtain ⟨⟨q1, q2, q3⟩, m1, m2, m3⟩ := qw
    show gx_QW K (gx_up (gx_up (gx_up (gx_up Q 0 1 (Q 0 1 + 1)) 4 (Q 0 1) A) 5 (Q 0 1) B) 6 (Q 0 1) D)
    have e0 : ∀ j, gx_up (gx_up (gx_up (gx_up Q 0 1 (Q 0 1 + 1)) 4 (Q 0 1) A) 5 (Q 0 1) B) 6 (Q 0 1) D 0 j = if j = 1 then Q 0 1 + 1 else Q 0 j := fun j => by
      rw [gx_up_row (by decide), gx_up_row (by decide), gx_up_row (by decide)]
      by_cases e : j = 1
      · rw [if_pos e, e, gx_up_eq]
      · rw [if_neg e, gx_up_col e]
    have e4 : ∀ i j, i ≠ 0 → i ≠ 4 → i ≠ 5 → i ≠ 6 → gx_up (gx_up (gx_up (gx_up Q 0 1 (Q 0 1 + 1)) 4 (Q 0 1) A) 5 (Q 0 1) B) 6 (Q 0 1) D i j = Q i j := fun i j h0 h1 h2 h3 => by
      rw [gx_up_row h3, gx_up_row h2, gx_up_row h1, gx_up_row h0]
    refine ⟨⟨by rw [e0, if_neg (by decide)]; exact q1, by rw [e0, if_pos rfl]; omega, by rw [e0, if_neg (by decide)]; exact q3⟩, fun j hj => ?_, fun j hj => ?_, fun j hj => ?_⟩
    · rw [e0, if_neg (by decide)] at hj
      rw [e4 1 j (by decide) (by decide) (by decide) (by decide), e4 2 j (by decide) (by decide) (by decide) (by decide), e4 3 j (by decide) (by decide) (by decide) (by decide)]
      exact m1 j hj
    · rw [e0, if_pos rfl] at hj
      by_cases e : j = Q 0 1
      · subst e
        rw [gx_up_eq, gx_up_row (a := 5) (by decide), gx_up_eq, gx_up_row (a := 4) (by decide), gx_up_row (a := 4) (by decide), gx_up_eq]
        exact ⟨hA, hB, hD⟩
      · rw [gx_up_col e, gx_up_col e, gx_up_col e, gx_up_row (a := 4) (by decide), gx_up_col e, gx_up_col e, gx_up_row (a := 5) (by decide), gx_up_row (a := 5) (by decide), gx_up_col e, gx_up_row (a := 6) (by decide), gx_up_row (a := 6) (by decide), gx_up_row (a := 6) (by decide)]
        exact m2 j (by omega)
    · rw [e0, if_neg (by decide)] at hj
      rw [e4 7 j (by decide) (by decide) (by decide) (by decide), e4 8 j (by decide) (by decide) (by decide) (by decide)]
      exact m3 j hj
theorem gx_ws_write (hW : gx_WF K V m hs cnt im sd x L fp Q) (a b : Int32) : gx_WZ (nWrite (K, (V, m), hs, cnt, im, sd, x, L, fp, Q) a b) := by
  have hW0 := hW
  obtain ⟨kw, vw, vd, hh, hc, hhs, him, hsd, htx, hfp, qw⟩ := hW
  have k0 := kw.1
  by_cases q : (gx_in a (nI (K 0 0)) = 0 ∨ gx_wi b (nI 0) (nI 999) = 0) ∨ Q 0 2 = 15
  · rw [show nWrite (K, (V, m), hs, cnt, im, sd, x, L, fp, Q) a b = _ from if_pos q]; exact hW0
  · rw [show nWrite (K, (V, m), hs, cnt, im, sd, x, L, fp, Q) a b = _ from if_neg q]
    obtain ⟨A, hA, rfl⟩ := gx_in_of (by omega) (fun z => q (Or.inl (Or.inl z)))
    obtain ⟨B, _, hB, rfl⟩ := gx_wi_of (by decide) (by decide) (fun z => q (Or.inl (Or.inr z)))
    have q6 : ¬ Q 0 2 = 15 := fun z => q (Or.inr z)
    rw [nI_clamp (by omega), nI_clamp (by omega)]
    refine ⟨kw, vw, vd, hh, hc, hhs, him, hsd, htx, hfp, ?_⟩
    obtain ⟨⟨q1, q2, q3⟩, m1, m2, m3⟩ := qw
    show gx_QW K (gx_up (gx_up (gx_up Q 0 2 (Q 0 2 + 1)) 7 (Q 0 2) A) 8 (Q 0 2) B)
    have e0 : ∀ j, gx_up (gx_up (gx_up Q 0 2 (Q 0 2 + 1)) 7 (Q 0 2) A) 8 (Q 0 2) B 0 j = if j = 2 then Q 0 2 + 1 else Q 0 j := fun j => by
      rw [gx_up_row (by decide), gx_up_row (by decide)]
      by_cases e : j = 2
      · rw [if_pos e, e, gx_up_eq]
      · rw [if_neg e, gx_up_col e]
    have e4 : ∀ i j, i ≠ 0 → i ≠ 7 → i ≠ 8 → gx_up (gx_up (gx_up Q 0 2 (Q 0 2 + 1)) 7 (Q 0 2) A) 8 (Q 0 2) B i j = Q i j := fun i j h0 h1 h2 => by
      rw [gx_up_row h2, gx_up_row h1, gx_up_row h0]
    refine ⟨⟨by rw [e0, if_neg (by decide)]; exact q1, by rw [e0, if_neg (by decide)]; exact q2, by rw [e0, if_pos rfl]; omega⟩, fun j hj => ?_, fun j hj => ?_, fun j hj => ?_⟩
    · rw [e0, if_neg (by decide)] at hj
      rw [e4 1 j (by decide) (by decide) (by decide), e4 2 j (by decide) (by decide) (by decide), e4 3 j (by decide) (by decide) (by decide)]
      exact m1 j hj
    · rw [e0, if_neg (by decide)] at hj
      rw [e4 4 j (by decide) (by decide) (by decide), e4 5 j (by decide) (by decide) (by decide), e4 6 j (by decide) (by decide) (by decide)]
      exact m2 j hj
    · rw [e0, if_pos rfl] at hj
      by_cases e : j = Q 0 2
      · subst e
        rw [gx_up_eq, gx_up_row (a := 7) (by decide), gx_up_eq]
        exact ⟨hA, hB⟩
      · rw [gx_up_col e, gx_up_col e, gx_up_row (a := 7) (by decide), gx_up_col e, gx_up_row (a := 8) (by decide), gx_up_row (a := 8) (by decide)]
        exact m3 j (by omega)
theorem gx_ws_feed (hW : gx_WF K V m hs cnt im sd x L fp Q) (a : Int32) : gx_WZ (nFeed (K, (V, m), hs, cnt, im, sd, x, L, fp, Q) a) := by
  have hW0 := hW
  obtain ⟨kw, vw, vd, hh, hc, hhs, him, hsd, htx, hfp, qw⟩ := hW
  by_cases q : gx_wi a (nI 0) (nI 255) = 0 ∨ L = 240
  · rw [show nFeed (K, (V, m), hs, cnt, im, sd, x, L, fp, Q) a = _ from if_pos q]; exact hW0
  · rw [show nFeed (K, (V, m), hs, cnt, im, sd, x, L, fp, Q) a = _ from if_neg q]
    obtain ⟨A, _, hA, rfl⟩ := gx_wi_of (by decide) (by decide) (fun z => q (Or.inl z))
    have q6 : ¬ L = 240 := fun z => q (Or.inr z)
    rw [nI_clamp (by omega)]
    refine ⟨kw, vw, vd, hh, hc, hhs, him, hsd, ⟨by have := htx.1; show L + 1 ≤ 240; omega, fun j hj => ?_⟩, hfp, qw⟩
    show gx_fd x L A j ≤ 255
    unfold gx_fd
    by_cases e : j = L
    · rw [if_pos e]; exact hA
    · rw [if_neg e]; exact htx.2 j (by have hj : j < L + 1 := hj; omega)
theorem gx_ws_keep (hW : gx_WF K V m hs cnt im sd x L fp Q) (a : Int32) : gx_WZ (nKeep (K, (V, m), hs, cnt, im, sd, x, L, fp, Q) a) := by
  have hW0 := hW
  obtain ⟨kw, vw, vd, hh, hc, hhs, him, hsd, htx, hfp, qw⟩ := hW
  by_cases q : gx_wi a (nI 0) (nI 1) = 0
  · rw [show nKeep (K, (V, m), hs, cnt, im, sd, x, L, fp, Q) a = _ from if_pos q]; exact hW0
  · rw [show nKeep (K, (V, m), hs, cnt, im, sd, x, L, fp, Q) a = _ from if_neg q]
    refine ⟨kw, vw, vd, hh, Nat.zero_le _, fun k hk => absurd hk (Nat.not_lt_zero k), fun i hi => ?_, hsd, htx, hfp, qw⟩
    show (gx_ki im a.toNatClampNeg (V, m) sd i).1 ≤ 1 ∧ (gx_ki im a.toNatClampNeg (V, m) sd i).2.2 < 2147483648 ∧ ((gx_ki im a.toNatClampNeg (V, m) sd i).1 = 1 → gx_Sw K (gx_ki im a.toNatClampNeg (V, m) sd i).2.1)
    unfold gx_ki
    by_cases e : i = a.toNatClampNeg
    · rw [if_pos e]; exact ⟨Nat.le_refl _, hsd, fun _ => ⟨vw, vd, hh⟩⟩
    · rw [if_neg e]; exact him i hi
theorem gx_ws_back (hW : gx_WF K V m hs cnt im sd x L fp Q) (a : Int32) : gx_WZ (nBack (K, (V, m), hs, cnt, im, sd, x, L, fp, Q) a) := by
  have hW0 := hW
  obtain ⟨kw, vw, vd, hh, hc, hhs, him, hsd, htx, hfp, qw⟩ := hW
  by_cases q : gx_wi a (nI 0) (nI 1) = 0 ∨ (im a.toNatClampNeg).1 = 0
  · rw [show nBack (K, (V, m), hs, cnt, im, sd, x, L, fp, Q) a = _ from if_pos q]; exact hW0
  · rw [show nBack (K, (V, m), hs, cnt, im, sd, x, L, fp, Q) a = _ from if_neg q]
    obtain ⟨A, _, hA, rfl⟩ := gx_wi_of (by decide) (by decide) (fun z => q (Or.inl z))
    have q2 : ¬ (im (nI A).toNatClampNeg).1 = 0 := fun z => q (Or.inr z)
    rw [nI_clamp (by omega)] at q2 ⊢
    have h := him A (by omega)
    have hs := h.2.2 (by have := h.1; omega)
    exact ⟨kw, hs.1, hs.2.1, hs.2.2, Nat.zero_le _, fun k hk => absurd hk (Nat.not_lt_zero k), him, h.2.1, htx, hfp, qw⟩
theorem gx_ws_coast (hW : gx_WF K V m hs cnt im sd x L fp Q) : gx_WZ (nCoast (K, (V, m), hs, cnt, im, sd, x, L, fp, Q)) := by
  have hW0 := hW
  obtain ⟨kw, vw, vd, hh, hc, hhs, him, hsd, htx, hfp, qw⟩ := hW
  have hf := (gx_ri_RW htx.1 htx.2).2.2.2.1
  by_cases q : (gx_ri x L).1.2.1 = 0
  · rw [show nCoast (K, (V, m), hs, cnt, im, sd, x, L, fp, Q) = _ from if_pos q]
    have h := (gx_ri_0 htx.1 htx.2 q).2
    exact ⟨h, gx_begin_VW h, fun i j _ _ _ n => absurd rfl n, Nat.zero_le _, Nat.zero_le _, fun k hk => absurd hk (Nat.not_lt_zero k), fun i hi => ⟨Nat.zero_le _, (him i hi).2.1, fun z => absurd z (by show ¬ (0 : Nat) = 1; decide)⟩, hsd, ⟨Nat.zero_le _, fun j hj => absurd hj (Nat.not_lt_zero j)⟩, hf, gx_Q0_W⟩
  · rw [show nCoast (K, (V, m), hs, cnt, im, sd, x, L, fp, Q) = _ from if_neg q]
    exact ⟨kw, vw, vd, hh, hc, hhs, him, hsd, ⟨Nat.zero_le _, fun j hj => absurd hj (Nat.not_lt_zero j)⟩, hf, qw⟩
end WFS
