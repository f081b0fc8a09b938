/-! hours, draws, undoing -/
def gx_hn (K V : gx_K) (m : Int32) : Nat → gx_K
  | 0 => V
  | n + 1 => gx_hour K (gx_hn K V m n) m
theorem gx_hn_VW {K V : gx_K} {m : Int32} (kw : gx_KW K) (vw : gx_VW K V) : ∀ n, gx_VW K (gx_hn K V m n)
  | 0 => vw
  | n + 1 => gx_hour_VW kw (gx_hn_VW kw vw n)
theorem gx_hour_h {K V : gx_K} {m : Int32} : gx_hour K V m 0 0 = V 0 0 + 1 := gx_up_eq _ _ _ _
theorem gx_hn_h {K V : gx_K} {m : Int32} : ∀ n, gx_hn K V m n 0 0 = V 0 0 + n
  | 0 => rfl
  | n + 1 => by
    show gx_hour K (gx_hn K V m n) m 0 0 = _
    rw [gx_hour_h, gx_hn_h n]; omega
theorem gx_hour_s {K V : gx_K} {m : Int32} (j : Nat) : gx_hour K V m 2 j = V 2 j := by
  unfold gx_hour
  rw [gx_up_row (by decide), gx_sb_row (by decide), gx_wind_row (by decide) (by decide)]
theorem gx_hn_s {K V : gx_K} {m : Int32} (j : Nat) : ∀ n, gx_hn K V m n 2 j = V 2 j
  | 0 => rfl
  | n + 1 => by
    show gx_hour K (gx_hn K V m n) m 2 j = _
    rw [gx_hour_s, gx_hn_s j n]
theorem gx_Vd_of {K V V' : gx_K} (e : ∀ j, V' 2 j = V 2 j) (h : gx_Vd K V) : gx_Vd K V' := fun i j hi hj q1 q2 => h i j hi hj (by rw [← e, ← e]; exact q1) (by rw [← e]; exact q2)
theorem gx_slep_b {m x b : Int32} : True := trivial
theorem gx_up2_VW {K V : gx_K} {p t : Nat} (vw : gx_VW K V) (ht : t ≤ K 0 1) : gx_VW K (gx_up V 2 p t) :=
  ⟨Nat.zero_le _, fun j hj => by rw [gx_up_row (by decide)]; exact vw.2.1 j hj, fun j hj => by
    by_cases e : j = p
    · subst e; rw [gx_up_eq]; exact ht
    · rw [gx_up_col e]; exact vw.2.2.1 j hj, fun j hj => by rw [gx_up_row (by decide)]; exact vw.2.2.2.1 j hj, fun j hj => by rw [gx_up_row (by decide)]; exact vw.2.2.2.2 j hj⟩
theorem gx_up2_Vd {K V : gx_K} {p t : Nat} (vd : gx_Vd K V) (hf : t = 0 ∨ ∀ i, i < K 0 2 → ¬ V 2 i = t) : gx_Vd K (gx_up V 2 p t) := by
  intro i j hi hj q1 q2
  by_cases ei : i = p
  · by_cases ej : j = p
    · rw [ei, ej]
    · subst ei
      rw [gx_up_eq] at q1 q2
      rw [gx_up_col ej] at q1
      rcases hf with q | q
      · exact absurd q q2
      · exact absurd q1.symm (q j hj)
  · rw [gx_up_col ei] at q1 q2
    by_cases ej : j = p
    · subst ej
      rw [gx_up_eq] at q1
      rcases hf with q | q
      · exact absurd (q1.trans q) q2
      · exact absurd q1 (q i hi)
    · rw [gx_up_col ej] at q1
      exact vd i j hi hj q1 q2
theorem gx_sit_ok {K V : gx_K} {p sd : Nat} (vw : gx_VW K V) (vd : gx_Vd K V) (hs : sd < 2147483648) : gx_VW K (gx_sit K V p sd).1 ∧ gx_Vd K (gx_sit K V p sd).1 ∧ (gx_sit K V p sd).1 0 0 = V 0 0 ∧ (gx_sit K V p sd).2 < 2147483648 := by
  unfold gx_sit
  by_cases h : K 0 1 = 0
  · rw [if_pos h]; exact ⟨vw, vd, rfl, hs⟩
  · rw [if_neg h]
    refine ⟨?_, ?_, ?_, gx_rnd_lt _⟩
    · show gx_VW K (if gx_free K V (gx_dr sd (K 0 1)) then gx_up V 2 p (gx_dr sd (K 0 1) + 1) else V)
      split
      · exact gx_up2_VW vw (gx_dr_lt sd (by omega))
      · exact vw
    · show gx_Vd K (if gx_free K V (gx_dr sd (K 0 1)) then gx_up V 2 p (gx_dr sd (K 0 1) + 1) else V)
      split
      · rename_i q; exact gx_up2_Vd vd (Or.inr q)
      · exact vd
    · show (if gx_free K V (gx_dr sd (K 0 1)) then gx_up V 2 p (gx_dr sd (K 0 1) + 1) else V) 0 0 = V 0 0
      split
      · rw [gx_up_row (by decide)]
      · rfl
theorem gx_stir_ok {K V : gx_K} {m : Int32} {sd : Nat} (vw : gx_VW K V) (vd : gx_Vd K V) (hs : sd < 2147483648) : gx_VW K (gx_stir K V m sd).1 ∧ gx_Vd K (gx_stir K V m sd).1 ∧ (gx_stir K V m sd).1 0 0 = V 0 0 ∧ (gx_stir K V m sd).2.2 < 2147483648 := by
  unfold gx_stir
  split
  · exact ⟨vw, vd, rfl, hs⟩
  split
  · exact ⟨vw, vd, rfl, gx_rnd_lt _⟩
  split
  · exact ⟨vw, vd, rfl, gx_rnd_lt _⟩
  split
  · exact ⟨gx_up2_VW vw (Nat.zero_le _), gx_up2_Vd vd (Or.inl rfl), gx_up_row (V := V) (v := 0) (j := gx_dr sd (K 0 2)) (show (0 : Nat) ≠ 2 by decide), gx_rnd_lt _⟩
  split
  · exact gx_sit_ok vw vd (gx_rnd_lt _)
  · exact ⟨vw, vd, rfl, gx_rnd_lt _⟩
/-- n hours by draws: the state, the sleepers, the seed -/
def gx_dn (K V : gx_K) (m : Int32) (sd : Nat) : Nat → gx_K × Int32 × Nat
  | 0 => (V, m, sd)
  | n + 1 => (gx_hour K (gx_stir K (gx_dn K V m sd n).1 (gx_dn K V m sd n).2.1 (gx_dn K V m sd n).2.2).1 (gx_stir K (gx_dn K V m sd n).1 (gx_dn K V m sd n).2.1 (gx_dn K V m sd n).2.2).2.1, (gx_stir K (gx_dn K V m sd n).1 (gx_dn K V m sd n).2.1 (gx_dn K V m sd n).2.2).2)
theorem gx_dn_ok {K V : gx_K} {m : Int32} {sd : Nat} (kw : gx_KW K) (vw : gx_VW K V) (vd : gx_Vd K V) (hs : sd < 2147483648) : ∀ n, gx_VW K (gx_dn K V m sd n).1 ∧ gx_Vd K (gx_dn K V m sd n).1 ∧ (gx_dn K V m sd n).1 0 0 = V 0 0 + n ∧ (gx_dn K V m sd n).2.2 < 2147483648
  | 0 => ⟨vw, vd, rfl, hs⟩
  | n + 1 => by
    have ih := gx_dn_ok kw vw vd hs n (m := m)
    have h := gx_stir_ok (m := (gx_dn K V m sd n).2.1) ih.1 ih.2.1 ih.2.2.2
    refine ⟨gx_hour_VW kw h.1, ?_, ?_, h.2.2.2⟩
    · exact gx_Vd_of (V' := gx_hour K (gx_stir K (gx_dn K V m sd n).1 (gx_dn K V m sd n).2.1 (gx_dn K V m sd n).2.2).1 (gx_stir K (gx_dn K V m sd n).1 (gx_dn K V m sd n).2.1 (gx_dn K V m sd n).2.2).2.1) (fun j => gx_hour_s j) h.2.1
    · show gx_hour K (gx_stir K (gx_dn K V m sd n).1 (gx_dn K V m sd n).2.1 (gx_dn K V m sd n).2.2).1 (gx_stir K (gx_dn K V m sd n).1 (gx_dn K V m sd n).2.1 (gx_dn K V m sd n).2.2).2.1 0 0 = _
      rw [gx_hour_h, h.2.2.1, ih.2.2.1]; omega
/-- why n hours can't pass: 0 if they can -/
def gx_refuse (K V : gx_K) (a : Int32) : Int32 := if gx_wi a (nI 1) (nI 60) = 0 then gOUT else if K 0 0 = 0 then gNOT else if 9000 < V 0 0 then gFUL else nI 0
theorem gx_refuse_of {K V : gx_K} {a : Int32} (h : gx_refuse K V a = 0) : (∃ k, 1 ≤ k ∧ k ≤ 60 ∧ a = nI k) ∧ ¬ K 0 0 = 0 ∧ V 0 0 ≤ 9000 := by
  unfold gx_refuse at h
  by_cases h1 : gx_wi a (nI 1) (nI 60) = 0
  · rw [if_pos h1] at h; exact absurd h (by decide)
  · rw [if_neg h1] at h
    by_cases h2 : K 0 0 = 0
    · rw [if_pos h2] at h; exact absurd h (by decide)
    · rw [if_neg h2] at h
      by_cases h3 : 9000 < V 0 0
      · rw [if_pos h3] at h; exact absurd h (by decide)
      · exact ⟨gx_wi_of (by decide) (by decide) h1, h2, by omega⟩
def aHour (K V : gx_K) (a : Int32) : Int32 := if gx_refuse K V a = 0 then nI (V 0 0 + a.toNatClampNeg) else gx_refuse K V a
def nHour : gx_Z → Int32 → gx_Z
  | (K, (V, m), hs, cnt, r), a => if gx_refuse K V a = 0 then (K, (gx_hn K V m a.toNatClampNeg, m), gx_ph hs cnt (V, m), min 16 (cnt + 1), r) else (K, (V, m), hs, cnt, r)
def nDrift : gx_Z → Int32 → gx_Z
  | (K, (V, m), hs, cnt, im, sd, r), a => if gx_refuse K V a = 0 then (K, ((gx_dn K V m sd a.toNatClampNeg).1, (gx_dn K V m sd a.toNatClampNeg).2.1), gx_ph hs cnt (V, m), min 16 (cnt + 1), im, (gx_dn K V m sd a.toNatClampNeg).2.2, r) else (K, (V, m), hs, cnt, im, sd, r)
def aUndo (cnt : Nat) : Int32 := if cnt = 0 then gNOT else nI (cnt - 1)
def nUndo : gx_Z → gx_Z
  | (K, v, hs, cnt, r) => if cnt = 0 then (K, v, hs, cnt, r) else (K, hs (cnt - 1), hs, cnt - 1, r)
def aSeed (sd : Nat) (a : Int32) : Int32 := if a < 0 then gOUT else nI sd
def nSeed : gx_Z → Int32 → gx_Z
  | (K, v, hs, cnt, im, sd, r), a => if a < 0 then (K, v, hs, cnt, im, sd, r) else (K, v, hs, cnt, im, a.toNatClampNeg, r)
/-- no notes -/
def gx_Q0 (Q : gx_K) : gx_K := fun i j => if i = 0 then 0 else Q i j
def nTear : gx_Z → gx_Z
  | (K, v, hs, cnt, im, sd, x, L, fp, Q) => (K, v, hs, cnt, im, sd, x, L, fp, gx_Q0 Q)
theorem gx_No_0 {w : gt_W} {Q : gx_K} (h0 : w 114 0 = nI 0) (h1 : w 114 1 = nI 0) (h2 : w 114 2 = nI 0) : gx_No w (gx_Q0 Q) :=
  ⟨⟨h0, h1, h2⟩, fun j hj => absurd hj (Nat.not_lt_zero j), fun j hj => absurd hj (Nat.not_lt_zero j), fun j hj => absurd hj (Nat.not_lt_zero j), fun j hj => absurd hj (Nat.not_lt_zero j), fun j hj => absurd hj (Nat.not_lt_zero j), fun j hj => absurd hj (Nat.not_lt_zero j), fun j hj => absurd hj (Nat.not_lt_zero j), fun j hj => absurd hj (Nat.not_lt_zero j)⟩
theorem gx_X_notes {w w' : gt_W} {c : Nat} {K V : gx_K} {m : Int32} {hs : Nat → gx_K × Int32} {cnt : Nat} {im : Nat → Nat × (gx_K × Int32) × Nat} {sd : Nat} {x : Nat → Nat} {L fp : Nat} {Q : gx_K} {Q2 : gx_K} (hX : gx_X w c K V m hs cnt im sd x L fp Q) (o : ∀ a, (a < 114 ∨ 123 ≤ a) → w' a = w a) (hQ : gx_No w' Q2) : gx_X w' c K V m hs cnt im sd x L fp Q2 := by
  obtain ⟨⟨hc, h11, h12, hfp⟩, hK, hV, ⟨nx, hx, h1, h2, h3⟩, him, hsd, htx, -⟩ := hX
  refine ⟨⟨hc, by rw [o 1 (by omega)]; exact h11, by rw [o 1 (by omega)]; exact h12, by rw [o 1 (by omega)]; exact hfp⟩, gx_Co_eq hc (fun a ha => o a (by omega)) hK, gx_St_eq (fun a q1 q2 => o a (by omega)) hV, ⟨nx, hx, by rw [o 30 (by omega)]; exact h1, by rw [o 30 (by omega)]; exact h2, fun k hk => gx_St_eq (fun a q1 q2 => o a (by omega)) (h3 k hk)⟩, fun i hi => ?_, by rw [o 113 (by omega)]; exact hsd, by rw [o 2 (by omega), o 3 (by omega)]; exact htx, hQ⟩
  have h := him i hi
  exact ⟨by rw [o (149 + 6 * i) (by omega)]; exact h.1, by rw [o (149 + 6 * i) (by omega)]; exact h.2.1, fun q => gx_St_eq (fun a q1 q2 => o a (by omega)) (h.2.2 q)⟩
theorem gx_X_seed {w w' : gt_W} {c : Nat} {K V : gx_K} {m : Int32} {hs : Nat → gx_K × Int32} {cnt : Nat} {im : Nat → Nat × (gx_K × Int32) × Nat} {sd : Nat} {x : Nat → Nat} {L fp : Nat} {Q : gx_K} {sd2 : Nat} (hX : gx_X w c K V m hs cnt im sd x L fp Q) (o : ∀ a, a ≠ 113 → w' a = w a) (hsd2 : w' 113 0 = nI sd2) : gx_X w' c K V m hs cnt im sd2 x L fp Q := by
  obtain ⟨⟨hc, h11, h12, hfp⟩, hK, hV, ⟨nx, hx, h1, h2, h3⟩, him, -, htx, hQ⟩ := hX
  refine ⟨⟨hc, by rw [o 1 (by omega)]; exact h11, by rw [o 1 (by omega)]; exact h12, by rw [o 1 (by omega)]; exact hfp⟩, gx_Co_eq hc (fun a ha => o a (by omega)) hK, gx_St_eq (fun a q1 q2 => o a (by omega)) hV, ⟨nx, hx, by rw [o 30 (by omega)]; exact h1, by rw [o 30 (by omega)]; exact h2, fun k hk => gx_St_eq (fun a q1 q2 => o a (by omega)) (h3 k hk)⟩, fun i hi => ?_, hsd2, by rw [o 2 (by omega), o 3 (by omega)]; exact htx, gx_No_eq (fun a q1 q2 => o a (by omega)) hQ⟩
  have h := him i hi
  exact ⟨by rw [o (149 + 6 * i) (by omega)]; exact h.1, by rw [o (149 + 6 * i) (by omega)]; exact h.2.1, fun q => gx_St_eq (fun a q1 q2 => o a (by omega)) (h.2.2 q)⟩
/-- now and the seed -/
theorem gx_X_drawn {w w' : gt_W} {c : Nat} {K V : gx_K} {m : Int32} {hs : Nat → gx_K × Int32} {cnt : Nat} {im : Nat → Nat × (gx_K × Int32) × Nat} {sd : Nat} {x : Nat → Nat} {L fp : Nat} {Q : gx_K} {V2 : gx_K} {m2 : Int32} {sd2 : Nat} (hX : gx_X w c K V m hs cnt im sd x L fp Q) (o : ∀ a, a ≠ 113 → (a < 20 ∨ 25 ≤ a) → w' a = w a) (hV : gx_St w' 20 K V2 m2) (hsd2 : w' 113 0 = nI sd2) : gx_X w' c K V2 m2 hs cnt im sd2 x L fp Q := by
  obtain ⟨⟨hc, h11, h12, hfp⟩, hK, -, ⟨nx, hx, h1, h2, h3⟩, him, -, htx, hQ⟩ := hX
  refine ⟨⟨hc, by rw [o 1 (by omega) (by omega)]; exact h11, by rw [o 1 (by omega) (by omega)]; exact h12, by rw [o 1 (by omega) (by omega)]; exact hfp⟩, gx_Co_eq hc (fun a ha => o a (by omega) (by omega)) hK, hV, ⟨nx, hx, by rw [o 30 (by omega) (by omega)]; exact h1, by rw [o 30 (by omega) (by omega)]; exact h2, fun k hk => gx_St_eq (fun a q1 q2 => o a (by omega) (by omega)) (h3 k hk)⟩, fun i hi => ?_, hsd2, by rw [o 2 (by omega) (by omega), o 3 (by omega) (by omega)]; exact htx, gx_No_eq (fun a q1 q2 => o a (by omega) (by omega)) hQ⟩
  have h := him i hi
  exact ⟨by rw [o (149 + 6 * i) (by omega) (by omega)]; exact h.1, by rw [o (149 + 6 * i) (by omega) (by omega)]; exact h.2.1, fun q => gx_St_eq (fun a q1 q2 => o a (by omega) (by omega)) (h.2.2 q)⟩
theorem gx_X_undo {w w' : gt_W} {c : Nat} {K V : gx_K} {m : Int32} {hs : Nat → gx_K × Int32} {cnt : Nat} {im : Nat → Nat × (gx_K × Int32) × Nat} {sd : Nat} {x : Nat → Nat} {L fp : Nat} {Q : gx_K} {nx : Nat} (hX : gx_X w c K V m hs cnt im sd x L fp Q) (kw : gx_KW K) (hcnt : cnt ≤ 16) (hx : nx < 16) (h3 : ∀ k, k < cnt → gx_St w (32 + 5 * ((nx + 16 - cnt + k) % 16)) K (hs k).1 (hs k).2) (h0 : 1 ≤ cnt)
    (o : ∀ a, a ≠ 30 → (a < 20 ∨ 25 ≤ a) → w' a = w a) (e1 : w' 30 1 = nI ((nx + 15) % 16)) (e2 : w' 30 2 = nI (cnt - 1)) (hcp : ∀ (K V : gx_K) (m : Int32), gx_KW K → gx_St w (32 + 5 * ((nx + 15) % 16)) K V m → gx_St w' 20 K V m) : gx_X w' c K (hs (cnt - 1)).1 (hs (cnt - 1)).2 hs (cnt - 1) im sd x L fp Q := by
  obtain ⟨⟨hc, h11, h12, hfp⟩, hK, -, -, him, hsd, htx, hQ⟩ := hX
  refine ⟨⟨hc, by rw [o 1 (by decide) (by omega)]; exact h11, by rw [o 1 (by decide) (by omega)]; exact h12, by rw [o 1 (by decide) (by omega)]; exact hfp⟩, gx_Co_eq hc (fun a ha => o a (by omega) (by omega)) hK, hcp K _ _ kw ?_, ⟨(nx + 15) % 16, Nat.mod_lt _ (by decide), e1, e2, fun k hk => ?_⟩, fun i hi => ?_, by rw [o 113 (by decide) (by omega)]; exact hsd, by rw [o 2 (by decide) (by omega), o 3 (by decide) (by omega)]; exact htx, gx_No_eq (fun a q1 q2 => o a (by omega) (by omega)) hQ⟩
  · have h := h3 (cnt - 1) (by omega)
    rw [show (nx + 16 - cnt + (cnt - 1)) % 16 = (nx + 15) % 16 by omega] at h
    exact h
  · rw [show ((nx + 15) % 16 + 16 - (cnt - 1) + k) % 16 = (nx + 16 - cnt + k) % 16 by omega]
    exact gx_St_eq (fun a q1 q2 => o a (by omega) (by omega)) (h3 k (by omega))
  · have h := him i hi
    exact ⟨by rw [o (149 + 6 * i) (by omega) (by omega)]; exact h.1, by rw [o (149 + 6 * i) (by omega) (by omega)]; exact h.2.1, fun q => gx_St_eq (fun a q1 q2 => o a (by omega) (by omega)) (h.2.2 q)⟩
theorem nHour_k {K V : gx_K} {m : Int32} {hs : Nat → gx_K × Int32} {cnt : Nat} {im : Nat → Nat × (gx_K × Int32) × Nat} {sd : Nat} {x : Nat → Nat} {L fp : Nat} {Q : gx_K} {a : Int32} (h : ¬ (gx_refuse K V a = 0)) : nHour (K, (V, m), hs, cnt, im, sd, x, L, fp, Q) a = (K, (V, m), hs, cnt, im, sd, x, L, fp, Q) := if_neg h
theorem nHour_g {K V : gx_K} {m : Int32} {hs : Nat → gx_K × Int32} {cnt : Nat} {im : Nat → Nat × (gx_K × Int32) × Nat} {sd : Nat} {x : Nat → Nat} {L fp : Nat} {Q : gx_K} {a : Int32} (h : gx_refuse K V a = 0) : nHour (K, (V, m), hs, cnt, im, sd, x, L, fp, Q) a = (K, (gx_hn K V m a.toNatClampNeg, m), gx_ph hs cnt (V, m), min 16 (cnt + 1), im, sd, x, L, fp, Q) := if_pos h
theorem nDrift_k {K V : gx_K} {m : Int32} {hs : Nat → gx_K × Int32} {cnt : Nat} {im : Nat → Nat × (gx_K × Int32) × Nat} {sd : Nat} {x : Nat → Nat} {L fp : Nat} {Q : gx_K} {a : Int32} (h : ¬ (gx_refuse K V a = 0)) : nDrift (K, (V, m), hs, cnt, im, sd, x, L, fp, Q) a = (K, (V, m), hs, cnt, im, sd, x, L, fp, Q) := if_neg h
theorem nDrift_g {K V : gx_K} {m : Int32} {hs : Nat → gx_K × Int32} {cnt : Nat} {im : Nat → Nat × (gx_K × Int32) × Nat} {sd : Nat} {x : Nat → Nat} {L fp : Nat} {Q : gx_K} {a : Int32} (h : gx_refuse K V a = 0) : nDrift (K, (V, m), hs, cnt, im, sd, x, L, fp, Q) a = (K, ((gx_dn K V m sd a.toNatClampNeg).1, (gx_dn K V m sd a.toNatClampNeg).2.1), gx_ph hs cnt (V, m), min 16 (cnt + 1), im, (gx_dn K V m sd a.toNatClampNeg).2.2, x, L, fp, Q) := if_pos h
theorem nUndo_k {K V : gx_K} {m : Int32} {hs : Nat → gx_K × Int32} {cnt : Nat} {im : Nat → Nat × (gx_K × Int32) × Nat} {sd : Nat} {x : Nat → Nat} {L fp : Nat} {Q : gx_K} (h : cnt = 0) : nUndo (K, (V, m), hs, cnt, im, sd, x, L, fp, Q)  = (K, (V, m), hs, cnt, im, sd, x, L, fp, Q) := if_pos h
theorem nUndo_g {K V : gx_K} {m : Int32} {hs : Nat → gx_K × Int32} {cnt : Nat} {im : Nat → Nat × (gx_K × Int32) × Nat} {sd : Nat} {x : Nat → Nat} {L fp : Nat} {Q : gx_K} (h : ¬ (cnt = 0)) : nUndo (K, (V, m), hs, cnt, im, sd, x, L, fp, Q)  = (K, hs (cnt - 1), hs, cnt - 1, im, sd, x, L, fp, Q) := if_neg h
theorem nSeed_k {K V : gx_K} {m : Int32} {hs : Nat → gx_K × Int32} {cnt : Nat} {im : Nat → Nat × (gx_K × Int32) × Nat} {sd : Nat} {x : Nat → Nat} {L fp : Nat} {Q : gx_K} {a : Int32} (h : a < 0) : nSeed (K, (V, m), hs, cnt, im, sd, x, L, fp, Q) a = (K, (V, m), hs, cnt, im, sd, x, L, fp, Q) := if_pos h
theorem nSeed_g {K V : gx_K} {m : Int32} {hs : Nat → gx_K × Int32} {cnt : Nat} {im : Nat → Nat × (gx_K × Int32) × Nat} {sd : Nat} {x : Nat → Nat} {L fp : Nat} {Q : gx_K} {a : Int32} (h : ¬ (a < 0)) : nSeed (K, (V, m), hs, cnt, im, sd, x, L, fp, Q) a = (K, (V, m), hs, cnt, im, a.toNatClampNeg, x, L, fp, Q) := if_neg h
set_option maxRecDepth 100000 in
set_option maxHeartbeats 4000000 in
theorem c_X9_refusalOfHours {l : Launch} {G : gt_G} {n : Nat} {w : gt_W} {c : Nat} {K V : gx_K} {m : Int32} {hs : Nat → gx_K × Int32} {cnt : Nat} {im : Nat → Nat × (gx_K × Int32) × Nat} {sd : Nat} {x : Nat → Nat} {L fp : Nat} {Q : gx_K} (hX : gx_X w c K V m hs cnt im sd x L fp Q) (hW : gx_WF K V m hs cnt im sd x L fp Q) (a9 : Int32) : gt_C l G yX9_refusalOfHours cX9_refusalOfHours 2 (some .int) 2 0 0 n [.ref 1, .int a9] (gt_enc w) (some (.int (gx_refuse K V a9))) (gt_enc (w)) := by
  obtain ⟨⟨hc, h11, ⟨c2, hc2, hne2, h12⟩, hfp⟩, hK, hV, hpast, him, hsd, htx, hQ⟩ := id hX
  obtain ⟨kw, vw, vd, hhr, hcnt, hhs, him2, hsd2, hxL, hfp2, qw⟩ := id hW
  have hcur : (some (Value.ref (w 1 1).toNatClampNeg) : Option Value) = some (Value.ref c) := by rw [h11, nI_clamp (by have := gt_isC_lt hc; omega)]
  refine gt_C_of (own := RX9) (nm := "refusalOfHours") rfl rfl (by decide +kernel) (Nat.le_of_ble_eq_true rfl) ?_
  show gt_A _ _ _ _ _ _ _ _ _ _ _ [(0, .ref 1), (1, .int a9)] _ _
  refine ga_iload_n 1 dX9_refusalOfHours_0 rfl ?_
  refine ga_iconst (nI 1) dX9_refusalOfHours_1 (by decide) ?_
  refine ga_bipush (nI 60) dX9_refusalOfHours_2 (by decide) ?_
  refine ga_S3 km_X9_82 kv_X9_within (c_X9_within a9 (nI 1) (nI 60)) (gt_rc0 (by decide)) (Nat.le_of_ble_eq_true rfl) dX9_refusalOfHours_4 ?_
  refine ga_if_ne 13 dX9_refusalOfHours_7 (by decide) (fun c_7 => ?_) (fun c_7 => ?_)
  · refine ga_aload_n 0 dX9_refusalOfHours_13 rfl ?_
    refine ga_get kf_X9_19 (sh1 _) hcur dX9_refusalOfHours_14 ?_
    refine ga_get kf_X9_113 (shC hc _) (gv hK.1.1) dX9_refusalOfHours_17 ?_
    refine ga_if_ne 26 dX9_refusalOfHours_20 (by decide) (fun c_20 => ?_) (fun c_20 => ?_)
    · have hz : ¬ K 0 0 = 0 := fun q => c_20 (by rw [q]; rfl)
      refine ga_aload_n 0 dX9_refusalOfHours_26 rfl ?_
      refine ga_get kf_X9_29 (sh1 _) rfl dX9_refusalOfHours_27 ?_
      refine ga_get kf_X9_128 (shS isS20 _) (gv hV.1) dX9_refusalOfHours_30 ?_
      refine ga_sipush (nI 9000) dX9_refusalOfHours_33 (by decide) ?_
      refine ga_icmp_le 45 dX9_refusalOfHours_36 (by decide) (fun c_36 => ?_) (fun c_36 => ?_)
      · have hh : ¬ 9000 < V 0 0 := by have := (nI_leI (by omega) (by decide)).mp c_36; omega
        refine ga_iconst (nI 0) dX9_refusalOfHours_45 (by decide) ?_
        exact ga_iret dX9_refusalOfHours_46 (gv (by unfold gx_refuse; rw [if_neg c_7, if_neg hz]; first | exact if_pos hh | exact if_neg hh | exact (if_pos hh).symm | exact (if_neg hh).symm)) rfl
      · have hh : 9000 < V 0 0 := by rcases Nat.lt_or_ge 9000 (V 0 0) with q | q; exact q; exact absurd (nI_le q (by omega)) c_36
        refine ga_ldc_w kc_X9_311 dX9_refusalOfHours_39 ?_
        refine ga_goto 46 dX9_refusalOfHours_42 (by decide) ?_
        exact ga_iret dX9_refusalOfHours_46 (gv (by unfold gx_refuse; rw [if_neg c_7, if_neg hz]; first | exact if_pos hh | exact if_neg hh | exact (if_pos hh).symm | exact (if_neg hh).symm)) rfl
    · have hz : K 0 0 = 0 := (nI_eq (by have := kw.1; omega) (by decide)).mp (c_20.trans nI_0.symm)
      refine ga_ldc kc_X9_245 dX9_refusalOfHours_23 ?_
      exact ga_iret dX9_refusalOfHours_25 (gv (by unfold gx_refuse; rw [if_neg c_7, if_pos hz])) rfl
  · refine ga_ldc kc_X9_86 dX9_refusalOfHours_10 ?_
    exact ga_iret dX9_refusalOfHours_12 (gv (by unfold gx_refuse; rw [if_pos c_7])) rfl
set_option maxRecDepth 100000 in
set_option maxHeartbeats 4000000 in
theorem c_X9_hour {l : Launch} {G : gt_G} {n : Nat} {w : gt_W} {c : Nat} {K V : gx_K} {m : Int32} {hs : Nat → gx_K × Int32} {cnt : Nat} {im : Nat → Nat × (gx_K × Int32) × Nat} {sd : Nat} {x : Nat → Nat} {L fp : Nat} {Q : gx_K} (hX : gx_X w c K V m hs cnt im sd x L fp Q) (hW : gx_WF K V m hs cnt im sd x L fp Q) (a9 : Int32) : gt_D l G yX9_hour cX9_hour 4 (some .int) 6 n [.ref 1, .int a9] w (fun r w' => r = some (.int (aHour K V a9)) ∧ (∃ c', gx_XZ w' c' (nHour (K, (V, m), hs, cnt, im, sd, x, L, fp, Q) a9)) ∧ ∀ a, 161 ≤ a → w' a = w a) := by
  obtain ⟨⟨hc, h11, ⟨c2, hc2, hne2, h12⟩, hfp⟩, hK, hV, hpast, him, hsd, htx, hQ⟩ := id hX
  obtain ⟨kw, vw, vd, hhr, hcnt, hhs, him2, hsd2, hxL, hfp2, qw⟩ := id hW
  have hcur : (some (Value.ref (w 1 1).toNatClampNeg) : Option Value) = some (Value.ref c) := by rw [h11, nI_clamp (by have := gt_isC_lt hc; omega)]
  obtain ⟨nx, hx, h1, h2, h3⟩ := hpast
  refine gt_D_of (own := RX9) (nm := "hour") rfl rfl (by decide +kernel) (Nat.le_of_ble_eq_true rfl) ?_
  show gt_A _ _ _ _ _ _ _ _ _ _ _ [(0, .ref 1), (1, .int a9)] _ _
  refine ga_aload_n 0 dX9_hour_0 rfl ?_
  refine ga_iload_n 1 dX9_hour_1 rfl ?_
  refine ga_V1 km_X9_235 kv_X9_refusalOfHours (c_X9_refusalOfHours hX hW a9) (sh1 _) rfl rfl (gt_rc0 (by decide)) (Nat.le_of_ble_eq_true rfl) dX9_hour_2 ?_
  refine gs_istore_n [(0, _), (1, _), (2, _)] dX9_hour_5 (by decide) rfl rfl ?_
  refine ga_iload_n 2 dX9_hour_6 rfl ?_
  refine ga_if_eq 12 dX9_hour_7 (by decide) (fun c_7 => ?_) (fun c_7 => ?_)
  · obtain ⟨⟨k, -, hk, rfl⟩, hz, hh⟩ := gx_refuse_of c_7
    have ek : (nI k).toNatClampNeg = k := nI_clamp (by omega)
    refine ga_aload_n 0 dX9_hour_12 rfl ?_
    refine ga_get kf_X9_39 (sh1 _) rfl dX9_hour_13 ?_
    refine ga_aload_n 0 dX9_hour_16 rfl ?_
    refine ga_get kf_X9_29 (sh1 _) rfl dX9_hour_17 ?_
    refine gd_V1 km_X9_238 kv_X4_remember (c_X4_remember h1 h2 hx hcnt) (sh30 _) rfl rfl (gt_rc0 (by decide)) (Nat.le_of_ble_eq_true rfl) dX9_hour_20 (fun r_20 w_20 q_20 => ?_)
    obtain ⟨rfl, orm, e1, e2, hcp⟩ := q_20
    have hX1 := gx_X_rem hX kw hcnt hx h3 orm e1 e2 hcp
    have hK := hX1.2.1
    have hV := hX1.2.2.1
    have h11 := hX1.1.2.1
    have hcur : (some (Value.ref (w_20 1 1).toNatClampNeg) : Option Value) = some (Value.ref c) := by rw [h11, nI_clamp (by have := gt_isC_lt hc; omega)]
    have hm161 : ∀ a, 161 ≤ a → w_20 a = w a := fun a ha => orm a (by omega) (by omega)
    refine ga_iconst (nI 0) dX9_hour_23 (by decide) ?_
    refine gs_istore_n [(0, _), (1, _), (2, _), (3, _)] dX9_hour_24 (by decide) rfl rfl ?_
    have loop : ∀ j t, t + j = k → ∀ w1 : gt_W, gx_X w1 c K (gx_hn K V m t) m (gx_ph hs cnt (V, m)) (min 16 (cnt + 1)) im sd x L fp Q → (∀ a, 161 ≤ a → w1 a = w a) → gt_A l G RX9 "hour" cX9_hour 4 (some .int) (gt_rm 6 0 0) (gt_ZD G n (fun r w' => r = some (.int (aHour K V (nI k))) ∧ (∃ c', gx_XZ w' c' (nHour (K, (V, m), hs, cnt, im, sd, x, L, fp, Q) (nI k))) ∧ ∀ a, 161 ≤ a → w' a = w a)) (n, 0, 0) 25 [(0, .ref 1), (1, .int (nI k)), (2, .int (gx_refuse K V (nI k))), (3, .int (nI t))] [] (gt_enc w1) := by
      intro j
      induction j with
      | zero =>
        intro t ht w1 hX1 hF
        have et : t = k := by omega
        obtain ⟨⟨hc, h11, ⟨c2, hc2, hne2, h12⟩, hfp⟩, hK, hV, hpast, him, hsd, htx, hQ⟩ := id hX1
        have hcur : (some (Value.ref (w1 1 1).toNatClampNeg) : Option Value) = some (Value.ref c) := by rw [h11, nI_clamp (by have := gt_isC_lt hc; omega)]
        refine ga_iload_n 3 dX9_hour_25 rfl ?_
        refine ga_iload_n 1 dX9_hour_26 rfl ?_
        refine ga_icmp_ge 47 dX9_hour_27 (by decide) (fun c_27 => ?_) (fun c_27 => absurd (nI_le (by omega) (by omega)) c_27)
        refine ga_aload_n 0 dX9_hour_47 rfl ?_
        refine ga_get kf_X9_29 (sh1 _) rfl dX9_hour_48 ?_
        refine ga_get kf_X9_128 (shS isS20 _) (gv hV.1) dX9_hour_51 ?_
        exact gd_iret dX9_hour_54 ⟨gv (by unfold aHour; rw [if_pos c_7, ek, gx_hn_h, et]), ⟨c, by rw [nHour_g c_7, ek, ← et]; exact hX1⟩, hF⟩
      | succ j ih =>
        intro t ht w1 hX1 hF
        obtain ⟨⟨hc, h11, ⟨c2, hc2, hne2, h12⟩, hfp⟩, hK, hV, hpast, him, hsd, htx, hQ⟩ := id hX1
        have hcur : (some (Value.ref (w1 1 1).toNatClampNeg) : Option Value) = some (Value.ref c) := by rw [h11, nI_clamp (by have := gt_isC_lt hc; omega)]
        refine ga_iload_n 3 dX9_hour_25 rfl ?_
        refine ga_iload_n 1 dX9_hour_26 rfl ?_
        refine ga_icmp_ge 47 dX9_hour_27 (by decide) (fun c_27 => absurd c_27 (nI_ge (by omega) (by omega))) (fun c_27 => ?_)
        refine ga_aload_n 0 dX9_hour_30 rfl ?_
        refine ga_get kf_X9_29 (sh1 _) rfl dX9_hour_31 ?_
        refine ga_aload_n 0 dX9_hour_34 rfl ?_
        refine ga_get kf_X9_19 (sh1 _) hcur dX9_hour_35 ?_
        refine gd_V1 km_X9_242 kv_X8_passHour (c_X8_passHour hc hK kw isS20 hV (gx_hn_VW kw vw t)) (shS isS20 _) rfl rfl (gt_rc0 (by decide)) (Nat.le_of_ble_eq_true rfl) dX9_hour_38 (fun r_38 w_38 q_38 => ?_)
        obtain ⟨rfl, hF1, hV1⟩ := q_38
        refine gs_iincN 3 1 [(0, _), (1, _), (2, _), (3, _)] dX9_hour_41 rfl (by decide) (by decide) rfl rfl ?_
        refine ga_goto 25 dX9_hour_44 (by decide) ?_
        exact ih (t + 1) (by omega) _ (gx_X_now hX1 (fun a q => hF1 a q) hV1) (fun a ha => (hF1 a (by omega)).trans (hF a ha))
    exact loop k 0 (by omega) _ hX1 hm161
  · refine ga_iload_n 2 dX9_hour_10 rfl ?_
    exact gd_iret dX9_hour_11 ⟨gv (by unfold aHour; rw [if_neg c_7]), ⟨c, by rw [nHour_k c_7]; exact hX⟩, fun _ _ => rfl⟩
set_option maxRecDepth 100000 in
set_option maxHeartbeats 4000000 in
theorem c_X9_drift {l : Launch} {G : gt_G} {n : Nat} {w : gt_W} {c : Nat} {K V : gx_K} {m : Int32} {hs : Nat → gx_K × Int32} {cnt : Nat} {im : Nat → Nat × (gx_K × Int32) × Nat} {sd : Nat} {x : Nat → Nat} {L fp : Nat} {Q : gx_K} (hX : gx_X w c K V m hs cnt im sd x L fp Q) (hW : gx_WF K V m hs cnt im sd x L fp Q) (a9 : Int32) : gt_D l G yX9_drift cX9_drift 4 (some .int) 6 n [.ref 1, .int a9] w (fun r w' => r = some (.int (aHour K V a9)) ∧ (∃ c', gx_XZ w' c' (nDrift (K, (V, m), hs, cnt, im, sd, x, L, fp, Q) a9)) ∧ ∀ a, 161 ≤ a → w' a = w a) := by
  obtain ⟨⟨hc, h11, ⟨c2, hc2, hne2, h12⟩, hfp⟩, hK, hV, hpast, him, hsd, htx, hQ⟩ := id hX
  obtain ⟨kw, vw, vd, hhr, hcnt, hhs, him2, hsd2, hxL, hfp2, qw⟩ := id hW
  have hcur : (some (Value.ref (w 1 1).toNatClampNeg) : Option Value) = some (Value.ref c) := by rw [h11, nI_clamp (by have := gt_isC_lt hc; omega)]
  obtain ⟨nx, hx, h1, h2, h3⟩ := hpast
  refine gt_D_of (own := RX9) (nm := "drift") rfl rfl (by decide +kernel) (Nat.le_of_ble_eq_true rfl) ?_
  show gt_A _ _ _ _ _ _ _ _ _ _ _ [(0, .ref 1), (1, .int a9)] _ _
  refine ga_aload_n 0 dX9_drift_0 rfl ?_
  refine ga_iload_n 1 dX9_drift_1 rfl ?_
  refine ga_V1 km_X9_235 kv_X9_refusalOfHours (c_X9_refusalOfHours hX hW a9) (sh1 _) rfl rfl (gt_rc0 (by decide)) (Nat.le_of_ble_eq_true rfl) dX9_drift_2 ?_
  refine gs_istore_n [(0, _), (1, _), (2, _)] dX9_drift_5 (by decide) rfl rfl ?_
  refine ga_iload_n 2 dX9_drift_6 rfl ?_
  refine ga_if_eq 12 dX9_drift_7 (by decide) (fun c_7 => ?_) (fun c_7 => ?_)
  · obtain ⟨⟨k, -, hk, rfl⟩, hz, hh⟩ := gx_refuse_of c_7
    have ek : (nI k).toNatClampNeg = k := nI_clamp (by omega)
    refine ga_aload_n 0 dX9_drift_12 rfl ?_
    refine ga_get kf_X9_39 (sh1 _) rfl dX9_drift_13 ?_
    refine ga_aload_n 0 dX9_drift_16 rfl ?_
    refine ga_get kf_X9_29 (sh1 _) rfl dX9_drift_17 ?_
    refine gd_V1 km_X9_238 kv_X4_remember (c_X4_remember h1 h2 hx hcnt) (sh30 _) rfl rfl (gt_rc0 (by decide)) (Nat.le_of_ble_eq_true rfl) dX9_drift_20 (fun r_20 w_20 q_20 => ?_)
    obtain ⟨rfl, orm, e1, e2, hcp⟩ := q_20
    have hX1 := gx_X_rem hX kw hcnt hx h3 orm e1 e2 hcp
    have hK := hX1.2.1
    have hV := hX1.2.2.1
    have h11 := hX1.1.2.1
    have hcur : (some (Value.ref (w_20 1 1).toNatClampNeg) : Option Value) = some (Value.ref c) := by rw [h11, nI_clamp (by have := gt_isC_lt hc; omega)]
    have hm161 : ∀ a, 161 ≤ a → w_20 a = w a := fun a ha => orm a (by omega) (by omega)
    refine ga_iconst (nI 0) dX9_drift_23 (by decide) ?_
    refine gs_istore_n [(0, _), (1, _), (2, _), (3, _)] dX9_drift_24 (by decide) rfl rfl ?_
    have loop : ∀ j t, t + j = k → ∀ w1 : gt_W, gx_X w1 c K (gx_dn K V m sd t).1 (gx_dn K V m sd t).2.1 (gx_ph hs cnt (V, m)) (min 16 (cnt + 1)) im (gx_dn K V m sd t).2.2 x L fp Q → (∀ a, 161 ≤ a → w1 a = w a) → gt_A l G RX9 "drift" cX9_drift 4 (some .int) (gt_rm 6 0 0) (gt_ZD G n (fun r w' => r = some (.int (aHour K V (nI k))) ∧ (∃ c', gx_XZ w' c' (nDrift (K, (V, m), hs, cnt, im, sd, x, L, fp, Q) (nI k))) ∧ ∀ a, 161 ≤ a → w' a = w a)) (n, 0, 0) 25 [(0, .ref 1), (1, .int (nI k)), (2, .int (gx_refuse K V (nI k))), (3, .int (nI t))] [] (gt_enc w1) := by
      intro j
      induction j with
      | zero =>
        intro t ht w1 hX1 hF
        have et : t = k := by omega
        obtain ⟨⟨hc, h11, ⟨c2, hc2, hne2, h12⟩, hfp⟩, hK, hV, hpast, him, hsd, htx, hQ⟩ := id hX1
        have hcur : (some (Value.ref (w1 1 1).toNatClampNeg) : Option Value) = some (Value.ref c) := by rw [h11, nI_clamp (by have := gt_isC_lt hc; omega)]
        refine ga_iload_n 3 dX9_drift_25 rfl ?_
        refine ga_iload_n 1 dX9_drift_26 rfl ?_
        refine ga_icmp_ge 62 dX9_drift_27 (by decide) (fun c_27 => ?_) (fun c_27 => absurd (nI_le (by omega) (by omega)) c_27)
        refine ga_aload_n 0 dX9_drift_62 rfl ?_
        refine ga_get kf_X9_29 (sh1 _) rfl dX9_drift_63 ?_
        refine ga_get kf_X9_128 (shS isS20 _) (gv hV.1) dX9_drift_66 ?_
        exact gd_iret dX9_drift_69 ⟨gv (by unfold aHour; rw [if_pos c_7, ek, (gx_dn_ok kw vw vd hsd2 t).2.2.1, et]), ⟨c, by rw [nDrift_g c_7, ek, ← et]; exact hX1⟩, hF⟩
      | succ j ih =>
        intro t ht w1 hX1 hF
        have hok := gx_dn_ok kw vw vd hsd2 t (m := m)
        obtain ⟨⟨hc, h11, ⟨c2, hc2, hne2, h12⟩, hfp⟩, hK, hV, hpast, him, hsd, htx, hQ⟩ := id hX1
        have hcur : (some (Value.ref (w1 1 1).toNatClampNeg) : Option Value) = some (Value.ref c) := by rw [h11, nI_clamp (by have := gt_isC_lt hc; omega)]
        refine ga_iload_n 3 dX9_drift_25 rfl ?_
        refine ga_iload_n 1 dX9_drift_26 rfl ?_
        refine ga_icmp_ge 62 dX9_drift_27 (by decide) (fun c_27 => absurd c_27 (nI_ge (by omega) (by omega))) (fun c_27 => ?_)
        refine ga_aload_n 0 dX9_drift_30 rfl ?_
        refine ga_get kf_X9_52 (sh1 _) rfl dX9_drift_31 ?_
        refine ga_aload_n 0 dX9_drift_34 rfl ?_
        refine ga_get kf_X9_19 (sh1 _) hcur dX9_drift_35 ?_
        refine ga_aload_n 0 dX9_drift_38 rfl ?_
        refine ga_get kf_X9_29 (sh1 _) rfl dX9_drift_39 ?_
        refine gd_V2 km_X9_250 kv_X1_stir (c_X1_stir hc hK kw hV hok.1 hsd hok.2.2.2) (sh113 _) rfl rfl (gt_rc0 (by decide)) (Nat.le_of_ble_eq_true rfl) dX9_drift_42 (fun r_42 w_42 q_42 => ?_)
        obtain ⟨rfl, o1, hV1, hs1⟩ := q_42
        have hX2 := gx_X_drawn hX1 o1 hV1 hs1
        obtain ⟨⟨hc, h11, ⟨c2, hc2, hne2, h12⟩, hfp⟩, hK, hV, hpast, him, hsd, htx, hQ⟩ := id hX2
        have hcur : (some (Value.ref (w_42 1 1).toNatClampNeg) : Option Value) = some (Value.ref c) := by rw [h11, nI_clamp (by have := gt_isC_lt hc; omega)]
        refine ga_aload_n 0 dX9_drift_45 rfl ?_
        refine ga_get kf_X9_29 (sh1 _) rfl dX9_drift_46 ?_
        refine ga_aload_n 0 dX9_drift_49 rfl ?_
        refine ga_get kf_X9_19 (sh1 _) hcur dX9_drift_50 ?_
        refine gd_V1 km_X9_242 kv_X8_passHour (c_X8_passHour hc hK kw isS20 hV (gx_stir_ok hok.1 hok.2.1 hok.2.2.2).1) (shS isS20 _) rfl rfl (gt_rc0 (by decide)) (Nat.le_of_ble_eq_true rfl) dX9_drift_53 (fun r_53 w_53 q_53 => ?_)
        obtain ⟨rfl, hF1, hV1⟩ := q_53
        refine gs_iincN 3 1 [(0, _), (1, _), (2, _), (3, _)] dX9_drift_56 rfl (by decide) (by decide) rfl rfl ?_
        refine ga_goto 25 dX9_drift_59 (by decide) ?_
        exact ih (t + 1) (by omega) _ (gx_X_now hX2 (fun a q => hF1 a q) hV1) (fun a ha => ((hF1 a (by omega)).trans (o1 a (by omega) (by omega))).trans (hF a ha))
    exact loop k 0 (by omega) _ hX1 hm161
  · refine ga_iload_n 2 dX9_drift_10 rfl ?_
    exact gd_iret dX9_drift_11 ⟨gv (by unfold aHour; rw [if_neg c_7]), ⟨c, by rw [nDrift_k c_7]; exact hX⟩, fun _ _ => rfl⟩
set_option maxRecDepth 100000 in
set_option maxHeartbeats 4000000 in
theorem c_X9_undo {l : Launch} {G : gt_G} {n : Nat} {w : gt_W} {c : Nat} {K V : gx_K} {m : Int32} {hs : Nat → gx_K × Int32} {cnt : Nat} {im : Nat → Nat × (gx_K × Int32) × Nat} {sd : Nat} {x : Nat → Nat} {L fp : Nat} {Q : gx_K} (hX : gx_X w c K V m hs cnt im sd x L fp Q) (hW : gx_WF K V m hs cnt im sd x L fp Q)  : gt_D l G yX9_undo cX9_undo 1 (some .int) 3 n [.ref 1] w (fun r w' => r = some (.int (aUndo cnt)) ∧ (∃ c', gx_XZ w' c' (nUndo (K, (V, m), hs, cnt, im, sd, x, L, fp, Q))) ∧ ∀ a, 161 ≤ a → w' a = w a) := by
  obtain ⟨⟨hc, h11, ⟨c2, hc2, hne2, h12⟩, hfp⟩, hK, hV, hpast, him, hsd, htx, hQ⟩ := id hX
  obtain ⟨kw, vw, vd, hhr, hcnt, hhs, him2, hsd2, hxL, hfp2, qw⟩ := id hW
  have hcur : (some (Value.ref (w 1 1).toNatClampNeg) : Option Value) = some (Value.ref c) := by rw [h11, nI_clamp (by have := gt_isC_lt hc; omega)]
  obtain ⟨nx, hx, h1, h2, h3⟩ := hpast
  refine gt_D_of (own := RX9) (nm := "undo") rfl rfl (by decide +kernel) (Nat.le_of_ble_eq_true rfl) ?_
  show gt_A _ _ _ _ _ _ _ _ _ _ _ [(0, .ref 1)] _ _
  refine ga_aload_n 0 dX9_undo_0 rfl ?_
  refine ga_get kf_X9_39 (sh1 _) rfl dX9_undo_1 ?_
  refine ga_get kf_X9_168 (sh30 _) (gv h2) dX9_undo_4 ?_
  refine ga_if_ne 13 dX9_undo_7 (by decide) (fun c_7 => ?_) (fun c_7 => ?_)
  · have hz : ¬ cnt = 0 := fun q => c_7 (by rw [q]; rfl)
    refine ga_aload_n 0 dX9_undo_13 rfl ?_
    refine ga_get kf_X9_39 (sh1 _) rfl dX9_undo_14 ?_
    refine ga_aload_n 0 dX9_undo_17 rfl ?_
    refine ga_get kf_X9_29 (sh1 _) rfl dX9_undo_18 ?_
    refine gd_V1 km_X9_254 kv_X4_recall (c_X4_recall h1 h2 hx (by omega)) (sh30 _) rfl rfl (gt_rc0 (by decide)) (Nat.le_of_ble_eq_true rfl) dX9_undo_21 (fun r_21 w_21 q_21 => ?_)
    obtain ⟨rfl, orc, e1, e2, hcp⟩ := q_21
    have hX1 := gx_X_undo hX kw hcnt hx h3 (by omega) orc e1 e2 hcp
    refine ga_aload_n 0 dX9_undo_24 rfl ?_
    refine ga_get kf_X9_39 (sh1 _) rfl dX9_undo_25 ?_
    refine ga_get kf_X9_168 (sh30 _) (gv e2) dX9_undo_28 ?_
    exact gd_iret dX9_undo_31 ⟨gv (by unfold aUndo; rw [if_neg hz]), ⟨c, by rw [nUndo_g hz]; exact hX1⟩, fun a ha => orc a (by omega) (by omega)⟩
  · have hz : cnt = 0 := (nI_eq (by omega) (by decide)).mp (c_7.trans nI_0.symm)
    refine ga_ldc kc_X9_245 dX9_undo_10 ?_
    exact gd_iret dX9_undo_12 ⟨gv (by unfold aUndo; rw [if_pos hz]), ⟨c, by rw [nUndo_k hz]; exact hX⟩, fun _ _ => rfl⟩
theorem gx_wi_seed {a : Int32} (h : gx_wi a (nI 0) (nI 2147483647) = 0) : a < 0 := Decidable.byContradiction fun hz => by
  obtain ⟨k, hk, rfl⟩ := nI_of hz
  unfold gx_wi at h
  rw [if_pos ⟨(nI_leI (by decide) hk).mpr (Nat.zero_le _), (nI_leI hk (by decide)).mpr (by omega)⟩] at h
  exact absurd h (by decide)
set_option maxRecDepth 100000 in
set_option maxHeartbeats 4000000 in
theorem c_X9_seed {l : Launch} {G : gt_G} {n : Nat} {w : gt_W} {c : Nat} {K V : gx_K} {m : Int32} {hs : Nat → gx_K × Int32} {cnt : Nat} {im : Nat → Nat × (gx_K × Int32) × Nat} {sd : Nat} {x : Nat → Nat} {L fp : Nat} {Q : gx_K} (hX : gx_X w c K V m hs cnt im sd x L fp Q) (hW : gx_WF K V m hs cnt im sd x L fp Q) (a9 : Int32) : gt_D l G yX9_seed cX9_seed 3 (some .int) 2 n [.ref 1, .int a9] w (fun r w' => r = some (.int (aSeed sd a9)) ∧ (∃ c', gx_XZ w' c' (nSeed (K, (V, m), hs, cnt, im, sd, x, L, fp, Q) a9)) ∧ ∀ a, 161 ≤ a → w' a = w a) := by
  obtain ⟨⟨hc, h11, ⟨c2, hc2, hne2, h12⟩, hfp⟩, hK, hV, hpast, him, hsd, htx, hQ⟩ := id hX
  obtain ⟨kw, vw, vd, hhr, hcnt, hhs, him2, hsd2, hxL, hfp2, qw⟩ := id hW
  have hcur : (some (Value.ref (w 1 1).toNatClampNeg) : Option Value) = some (Value.ref c) := by rw [h11, nI_clamp (by have := gt_isC_lt hc; omega)]
  refine gt_D_of (own := RX9) (nm := "seed") rfl rfl (by decide +kernel) (Nat.le_of_ble_eq_true rfl) ?_
  show gt_A _ _ _ _ _ _ _ _ _ _ _ [(0, .ref 1), (1, .int a9)] _ _
  refine ga_iload_n 1 dX9_seed_0 rfl ?_
  refine ga_iconst (nI 0) dX9_seed_1 (by decide) ?_
  refine ga_ldc_w kc_X9_303 dX9_seed_2 ?_
  refine ga_S3 km_X9_82 kv_X9_within (c_X9_within a9 (nI 0) (nI 2147483647)) (gt_rc0 (by decide)) (Nat.le_of_ble_eq_true rfl) dX9_seed_5 ?_
  refine ga_if_ne 14 dX9_seed_8 (by decide) (fun c_8 => ?_) (fun c_8 => ?_)
  · obtain ⟨k, -, hk1, rfl⟩ := gx_wi_of (by decide) (by decide) c_8
    have hk : k < 2 ^ 31 := by omega
    have hz : ¬ nI k < 0 := nI_pos hk
    have ek : (nI k).toNatClampNeg = k := nI_clamp hk
    refine ga_aload_n 0 dX9_seed_14 rfl ?_
    refine ga_get kf_X9_52 (sh1 _) rfl dX9_seed_15 ?_
    refine ga_get kf_X9_304 (sh113 _) (gv hsd) dX9_seed_18 ?_
    refine gs_istore_n [(0, _), (1, _), (2, _)] dX9_seed_21 (by decide) rfl rfl ?_
    refine ga_aload_n 0 dX9_seed_22 rfl ?_
    refine ga_get kf_X9_52 (sh1 _) rfl dX9_seed_23 ?_
    refine ga_iload_n 1 dX9_seed_26 rfl ?_
    refine gw_put 0 kp_X9_304 (sh113 _) (sh113 _) rfl rfl (Nat.le_of_ble_eq_true rfl) dX9_seed_27 (fun w_27 o_27 e_27 => ?_)
    refine ga_iload_n 2 dX9_seed_30 rfl ?_
    exact gd_iret dX9_seed_31 ⟨gv (by unfold aSeed; rw [if_neg hz]), ⟨c, by rw [nSeed_g hz, ek]; exact gx_X_seed hX o_27 (by rw [e_27, upd_eq])⟩, fun a ha => o_27 a (by omega)⟩
  · have hz : a9 < 0 := gx_wi_seed c_8
    refine ga_ldc kc_X9_86 dX9_seed_11 ?_
    exact gd_iret dX9_seed_13 ⟨gv (by unfold aSeed; rw [if_pos hz]), ⟨c, by rw [nSeed_k hz]; exact hX⟩, fun _ _ => rfl⟩
set_option maxRecDepth 100000 in
set_option maxHeartbeats 4000000 in
theorem c_X9_tear {l : Launch} {G : gt_G} {n : Nat} {w : gt_W} {c : Nat} {K V : gx_K} {m : Int32} {hs : Nat → gx_K × Int32} {cnt : Nat} {im : Nat → Nat × (gx_K × Int32) × Nat} {sd : Nat} {x : Nat → Nat} {L fp : Nat} {Q : gx_K} (hX : gx_X w c K V m hs cnt im sd x L fp Q) (hW : gx_WF K V m hs cnt im sd x L fp Q)  : gt_D l G yX9_tear cX9_tear 2 (some .int) 2 n [.ref 1] w (fun r w' => r = some (.int (nI (Q 0 0 + Q 0 1 + Q 0 2))) ∧ (∃ c', gx_XZ w' c' (nTear (K, (V, m), hs, cnt, im, sd, x, L, fp, Q))) ∧ ∀ a, 161 ≤ a → w' a = w a) := by
  obtain ⟨⟨hc, h11, ⟨c2, hc2, hne2, h12⟩, hfp⟩, hK, hV, hpast, him, hsd, htx, hQ⟩ := id hX
  obtain ⟨kw, vw, vd, hhr, hcnt, hhs, him2, hsd2, hxL, hfp2, qw⟩ := id hW
  have hcur : (some (Value.ref (w 1 1).toNatClampNeg) : Option Value) = some (Value.ref c) := by rw [h11, nI_clamp (by have := gt_isC_lt hc; omega)]
  refine gt_D_of (own := RX9) (nm := "tear") rfl rfl (by decide +kernel) (Nat.le_of_ble_eq_true rfl) ?_
  show gt_A _ _ _ _ _ _ _ _ _ _ _ [(0, .ref 1)] _ _
  refine ga_aload_n 0 dX9_tear_0 rfl ?_
  refine ga_get kf_X9_59 (sh1 _) rfl dX9_tear_1 ?_
  refine ga_get kf_X9_152 (sh114 _) (gv hQ.1.1) dX9_tear_4 ?_
  refine ga_aload_n 0 dX9_tear_7 rfl ?_
  refine ga_get kf_X9_59 (sh1 _) rfl dX9_tear_8 ?_
  refine ga_get kf_X9_159 (sh114 _) (gv hQ.1.2.1) dX9_tear_11 ?_
  refine ga_iadd dX9_tear_14 ?_
  refine ga_aload_n 0 dX9_tear_15 rfl ?_
  refine ga_get kf_X9_59 (sh1 _) rfl dX9_tear_16 ?_
  refine ga_get kf_X9_165 (sh114 _) (gv hQ.1.2.2) dX9_tear_19 ?_
  refine ga_iadd dX9_tear_22 ?_
  refine gs_istore_n [(0, _), (1, _)] dX9_tear_23 (by decide) rfl rfl ?_
  refine ga_aload_n 0 dX9_tear_24 rfl ?_
  refine ga_get kf_X9_59 (sh1 _) rfl dX9_tear_25 ?_
  refine gd_V0 km_X9_106 kv_X3_clear c_X3_clear (sh114 _) rfl rfl (gt_rc0 (by decide)) (Nat.le_of_ble_eq_true rfl) dX9_tear_28 (fun r_28 w_28 q_28 => ?_)
  obtain ⟨rfl, o9, z0, z1, z2⟩ := q_28
  refine ga_iload_n 1 dX9_tear_31 rfl ?_
  exact gd_iret dX9_tear_32 ⟨gv (by rw [nI_add, nI_add]), ⟨c, gx_X_notes hX (fun a q => o9 a (by omega)) (gx_No_0 z0 z1 z2)⟩, fun a ha => o9 a (by omega)⟩
set_option maxRecDepth 100000 in
set_option maxHeartbeats 4000000 in
theorem c_X9_judge {l : Launch} {G : gt_G} {n : Nat} {w : gt_W} {c : Nat} {K V : gx_K} {m : Int32} {hs : Nat → gx_K × Int32} {cnt : Nat} {im : Nat → Nat × (gx_K × Int32) × Nat} {sd : Nat} {x : Nat → Nat} {L fp : Nat} {Q : gx_K} (hX : gx_X w c K V m hs cnt im sd x L fp Q) (hW : gx_WF K V m hs cnt im sd x L fp Q)  : gt_D l G yX9_judge cX9_judge 1 (some .int) 4 n [.ref 1] w (fun r w' => r = some (.int (gx_first (fun i => ¬ gx_sea K V (Q 7 i) = Q 8 i) 0 (Q 0 2))) ∧ gx_X w' c K V m hs cnt im sd x L fp Q ∧ ∀ a, 161 ≤ a → w' a = w a) := by
  obtain ⟨⟨hc, h11, ⟨c2, hc2, hne2, h12⟩, hfp⟩, hK, hV, hpast, him, hsd, htx, hQ⟩ := id hX
  obtain ⟨kw, vw, vd, hhr, hcnt, hhs, him2, hsd2, hxL, hfp2, qw⟩ := id hW
  have hcur : (some (Value.ref (w 1 1).toNatClampNeg) : Option Value) = some (Value.ref c) := by rw [h11, nI_clamp (by have := gt_isC_lt hc; omega)]
  refine gt_D_of (own := RX9) (nm := "judge") rfl rfl (by decide +kernel) (Nat.le_of_ble_eq_true rfl) ?_
  show gt_A _ _ _ _ _ _ _ _ _ _ _ [(0, .ref 1)] _ _
  refine ga_aload_n 0 dX9_judge_0 rfl ?_
  refine ga_get kf_X9_59 (sh1 _) rfl dX9_judge_1 ?_
  refine ga_aload_n 0 dX9_judge_4 rfl ?_
  refine ga_get kf_X9_19 (sh1 _) hcur dX9_judge_5 ?_
  refine ga_aload_n 0 dX9_judge_8 rfl ?_
  refine ga_get kf_X9_29 (sh1 _) rfl dX9_judge_9 ?_
  refine ga_V2 km_X9_299 kv_X3_firstWrong (c_X3_firstWrong hc hK kw isS20 hV vw hQ qw) (sh114 _) rfl rfl (gt_rc0 (by decide)) (Nat.le_of_ble_eq_true rfl) dX9_judge_12 ?_
  exact gd_iret dX9_judge_15 ⟨rfl, hX, fun _ _ => rfl⟩
set_option maxRecDepth 100000 in
set_option maxHeartbeats 4000000 in
theorem c_X9_look {l : Launch} {G : gt_G} {n : Nat} {w : gt_W} {c : Nat} {K V : gx_K} {m : Int32} {hs : Nat → gx_K × Int32} {cnt : Nat} {im : Nat → Nat × (gx_K × Int32) × Nat} {sd : Nat} {x : Nat → Nat} {L fp : Nat} {Q : gx_K} (hX : gx_X w c K V m hs cnt im sd x L fp Q) (hW : gx_WF K V m hs cnt im sd x L fp Q)  : gt_D l G yX9_look cX9_look 2 (some .int) 6 n [.ref 1] w (fun r w' => r = some (.int (gx_look K V (fun p => ¬ V 2 p = 0 ∧ gx_fit K V Q p))) ∧ gx_X w' c K V m hs cnt im sd x L fp Q ∧ ∀ a, 161 ≤ a → w' a = w a) := by
  obtain ⟨⟨hc, h11, ⟨c2, hc2, hne2, h12⟩, hfp⟩, hK, hV, hpast, him, hsd, htx, hQ⟩ := id hX
  obtain ⟨kw, vw, vd, hhr, hcnt, hhs, him2, hsd2, hxL, hfp2, qw⟩ := id hW
  have hcur : (some (Value.ref (w 1 1).toNatClampNeg) : Option Value) = some (Value.ref c) := by rw [h11, nI_clamp (by have := gt_isC_lt hc; omega)]
  refine gt_D_of (own := RX9) (nm := "look") rfl rfl (by decide +kernel) (Nat.le_of_ble_eq_true rfl) ?_
  show gt_A _ _ _ _ _ _ _ _ _ _ _ [(0, .ref 1)] _ _
  refine ga_aload_n 0 dX9_look_0 rfl ?_
  refine ga_get kf_X9_73 (sh1 _) rfl dX9_look_1 ?_
  refine ga_aload_n 0 dX9_look_4 rfl ?_
  refine ga_get kf_X9_19 (sh1 _) hcur dX9_look_5 ?_
  refine ga_aload_n 0 dX9_look_8 rfl ?_
  refine ga_get kf_X9_29 (sh1 _) rfl dX9_look_9 ?_
  refine ga_aload_n 0 dX9_look_12 rfl ?_
  refine ga_get kf_X9_59 (sh1 _) rfl dX9_look_13 ?_
  refine ga_aload_n 0 dX9_look_16 rfl ?_
  refine ga_get kf_X9_33 (sh1 _) rfl dX9_look_17 ?_
  refine gd_V4 km_X9_155 kv_X7_fitting (c_X7_fitting hc hK kw hV vw hQ qw) (sh141 _) rfl rfl (gt_rc0 (by decide)) (Nat.le_of_ble_eq_true rfl) dX9_look_20 (fun r_20 w_20 q_20 => ?_)
  obtain ⟨rfl, hF9⟩ := q_20
  have hX1 := gx_X_eq (fun a q1 q2 q3 => hF9 a q2) hX
  obtain ⟨⟨hc, h11, ⟨c2, hc2, hne2, h12⟩, hfp⟩, hK, hV, hpast, him, hsd, htx, hQ⟩ := id hX1
  have hcur : (some (Value.ref (w_20 1 1).toNatClampNeg) : Option Value) = some (Value.ref c) := by rw [h11, nI_clamp (by have := gt_isC_lt hc; omega)]
  refine gs_istore_n [(0, _), (1, _)] dX9_look_23 (by decide) rfl rfl ?_
  refine ga_aload_n 0 dX9_look_24 rfl ?_
  refine ga_get kf_X9_73 (sh1 _) rfl dX9_look_25 ?_
  refine ga_iload_n 1 dX9_look_28 rfl ?_
  refine ga_aload_n 0 dX9_look_29 rfl ?_
  refine ga_get kf_X9_19 (sh1 _) hcur dX9_look_30 ?_
  refine ga_aload_n 0 dX9_look_33 rfl ?_
  refine ga_get kf_X9_29 (sh1 _) rfl dX9_look_34 ?_
  refine ga_aload_n 0 dX9_look_37 rfl ?_
  refine ga_get kf_X9_33 (sh1 _) rfl dX9_look_38 ?_
  refine gd_V4 km_X9_288 kv_X7_bestMark (c_X7_bestMark hc hK kw hV vw (fun p hp => gx_bit_slept (by have := kw.2.2.1; omega) hp)) (sh141 _) rfl rfl (gt_rc0 (by decide)) (Nat.le_of_ble_eq_true rfl) dX9_look_41 (fun r_41 w_41 q_41 => ?_)
  obtain ⟨rfl, hF8⟩ := q_41
  exact gd_iret dX9_look_44 ⟨rfl, gx_X_eq (fun a q1 q2 q3 => hF8 a q2 (by omega)) hX1, fun a ha => (hF8 a (by omega) (by omega)).trans (hF9 a (by omega))⟩
