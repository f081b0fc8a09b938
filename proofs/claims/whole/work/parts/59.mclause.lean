theorem gx_mc_tw {r : Nat → Int32} {K : gx_K} {v0 v1 : Nat} (h : gx_mc r K) (kb : K 0 0 ≤ 10 ∧ K 0 1 ≤ 6 ∧ K 0 2 ≤ 6 ∧ K 0 3 ≤ 4) (hl : K 0 1 < 6) : gx_mc (upd (upd (upd r 1 (nI (K 0 1 + 1))) (14 + K 0 1) (nI v0)) (20 + K 0 1) (nI v1)) (gx_up (gx_up (gx_up K 0 1 (K 0 1 + 1)) 2 (K 0 1) v0) 3 (K 0 1) v1) := by
  obtain ⟨h0, h1, h2, h3, h4, h5, h6, h7⟩ := h
  obtain ⟨k0, k1, k2, k3⟩ := kb
  have c0 : (gx_up (gx_up (gx_up K 0 1 (K 0 1 + 1)) 2 (K 0 1) v0) 3 (K 0 1) v1) 0 0 = K 0 0 := by simp [gx_up]
  have c1 : (gx_up (gx_up (gx_up K 0 1 (K 0 1 + 1)) 2 (K 0 1) v0) 3 (K 0 1) v1) 0 1 = K 0 1 + 1 := by simp [gx_up]
  have c2 : (gx_up (gx_up (gx_up K 0 1 (K 0 1 + 1)) 2 (K 0 1) v0) 3 (K 0 1) v1) 0 2 = K 0 2 := by simp [gx_up]
  have c3 : (gx_up (gx_up (gx_up K 0 1 (K 0 1 + 1)) 2 (K 0 1) v0) 3 (K 0 1) v1) 0 3 = K 0 3 := by simp [gx_up]
  refine ⟨fun i hi => ?_, fun j hj => ?_, fun j hj => ?_, fun j hj => ?_, fun j hj => ?_, fun j hj => ?_, fun j hj => ?_, fun j hj => ?_⟩
  · rcases (show i = 0 ∨ i = 1 ∨ i = 2 ∨ i = 3 by omega) with rfl | rfl | rfl | rfl
    · rw [c0, upd_ne _ _ (by omega), upd_ne _ _ (by omega), upd_ne _ _ (by omega)]; exact h0 0 (by decide)
    · rw [c1, upd_ne _ _ (by omega), upd_ne _ _ (by omega), upd_eq]
    · rw [c2, upd_ne _ _ (by omega), upd_ne _ _ (by omega), upd_ne _ _ (by omega)]; exact h0 2 (by decide)
    · rw [c3, upd_ne _ _ (by omega), upd_ne _ _ (by omega), upd_ne _ _ (by omega)]; exact h0 3 (by decide)
  · rw [c0] at hj; rw [upd_ne _ _ (by omega), upd_ne _ _ (by omega), upd_ne _ _ (by omega), h1 j hj]; simp [gx_up]
  · rw [c1] at hj
    by_cases e : j = K 0 1
    · rw [e, upd_ne _ _ (by omega), upd_eq]; simp [gx_up]
    · rw [upd_ne _ _ (by omega), upd_ne _ _ (by omega), upd_ne _ _ (by omega), h2 j (by omega)]; simp [gx_up, e]
  · rw [c1] at hj
    by_cases e : j = K 0 1
    · rw [e, upd_eq]; simp [gx_up]
    · rw [upd_ne _ _ (by omega), upd_ne _ _ (by omega), upd_ne _ _ (by omega), h3 j (by omega)]; simp [gx_up, e]
  · rw [c2] at hj; rw [upd_ne _ _ (by omega), upd_ne _ _ (by omega), upd_ne _ _ (by omega), h4 j hj]; simp [gx_up]
  · rw [c3] at hj; rw [upd_ne _ _ (by omega), upd_ne _ _ (by omega), upd_ne _ _ (by omega), h5 j hj]; simp [gx_up]
  · rw [c3] at hj; rw [upd_ne _ _ (by omega), upd_ne _ _ (by omega), upd_ne _ _ (by omega), h6 j hj]; simp [gx_up]
  · rw [c3] at hj; rw [upd_ne _ _ (by omega), upd_ne _ _ (by omega), upd_ne _ _ (by omega), h7 j hj]; simp [gx_up]
theorem gx_mc_pl {r : Nat → Int32} {K : gx_K} {v0 : Nat} (h : gx_mc r K) (kb : K 0 0 ≤ 10 ∧ K 0 1 ≤ 6 ∧ K 0 2 ≤ 6 ∧ K 0 3 ≤ 4) (hl : K 0 2 < 6) : gx_mc (upd (upd r 2 (nI (K 0 2 + 1))) (26 + K 0 2) (nI v0)) (gx_up (gx_up K 0 2 (K 0 2 + 1)) 4 (K 0 2) v0) := by
  obtain ⟨h0, h1, h2, h3, h4, h5, h6, h7⟩ := h
  obtain ⟨k0, k1, k2, k3⟩ := kb
  have c0 : (gx_up (gx_up K 0 2 (K 0 2 + 1)) 4 (K 0 2) v0) 0 0 = K 0 0 := by simp [gx_up]
  have c1 : (gx_up (gx_up K 0 2 (K 0 2 + 1)) 4 (K 0 2) v0) 0 1 = K 0 1 := by simp [gx_up]
  have c2 : (gx_up (gx_up K 0 2 (K 0 2 + 1)) 4 (K 0 2) v0) 0 2 = K 0 2 + 1 := by simp [gx_up]
  have c3 : (gx_up (gx_up K 0 2 (K 0 2 + 1)) 4 (K 0 2) v0) 0 3 = K 0 3 := by simp [gx_up]
  refine ⟨fun i hi => ?_, fun j hj => ?_, fun j hj => ?_, fun j hj => ?_, fun j hj => ?_, fun j hj => ?_, fun j hj => ?_, fun j hj => ?_⟩
  · rcases (show i = 0 ∨ i = 1 ∨ i = 2 ∨ i = 3 by omega) with rfl | rfl | rfl | rfl
    · rw [c0, upd_ne _ _ (by omega), upd_ne _ _ (by omega)]; exact h0 0 (by decide)
    · rw [c1, upd_ne _ _ (by omega), upd_ne _ _ (by omega)]; exact h0 1 (by decide)
    · rw [c2, upd_ne _ _ (by omega), upd_eq]
    · rw [c3, upd_ne _ _ (by omega), upd_ne _ _ (by omega)]; exact h0 3 (by decide)
  · rw [c0] at hj; rw [upd_ne _ _ (by omega), upd_ne _ _ (by omega), h1 j hj]; simp [gx_up]
  · rw [c1] at hj; rw [upd_ne _ _ (by omega), upd_ne _ _ (by omega), h2 j hj]; simp [gx_up]
  · rw [c1] at hj; rw [upd_ne _ _ (by omega), upd_ne _ _ (by omega), h3 j hj]; simp [gx_up]
  · rw [c2] at hj
    by_cases e : j = K 0 2
    · rw [e, upd_eq]; simp [gx_up]
    · rw [upd_ne _ _ (by omega), upd_ne _ _ (by omega), h4 j (by omega)]; simp [gx_up, e]
  · rw [c3] at hj; rw [upd_ne _ _ (by omega), upd_ne _ _ (by omega), h5 j hj]; simp [gx_up]
  · rw [c3] at hj; rw [upd_ne _ _ (by omega), upd_ne _ _ (by omega), h6 j hj]; simp [gx_up]
  · rw [c3] at hj; rw [upd_ne _ _ (by omega), upd_ne _ _ (by omega), h7 j hj]; simp [gx_up]
theorem gx_mc_bo {r : Nat → Int32} {K : gx_K} {v0 v1 v2 : Nat} (h : gx_mc r K) (kb : K 0 0 ≤ 10 ∧ K 0 1 ≤ 6 ∧ K 0 2 ≤ 6 ∧ K 0 3 ≤ 4) (hl : K 0 3 < 4) : gx_mc (upd (upd (upd (upd r 3 (nI (K 0 3 + 1))) (32 + K 0 3) (nI v0)) (36 + K 0 3) (nI v1)) (40 + K 0 3) (nI v2)) (gx_up (gx_up (gx_up (gx_up K 0 3 (K 0 3 + 1)) 5 (K 0 3) v0) 6 (K 0 3) v1) 7 (K 0 3) v2) := by
  obtain ⟨h0, h1, h2, h3, h4, h5, h6, h7⟩ := h
  obtain ⟨k0, k1, k2, k3⟩ := kb
  have c0 : (gx_up (gx_up (gx_up (gx_up K 0 3 (K 0 3 + 1)) 5 (K 0 3) v0) 6 (K 0 3) v1) 7 (K 0 3) v2) 0 0 = K 0 0 := by simp [gx_up]
  have c1 : (gx_up (gx_up (gx_up (gx_up K 0 3 (K 0 3 + 1)) 5 (K 0 3) v0) 6 (K 0 3) v1) 7 (K 0 3) v2) 0 1 = K 0 1 := by simp [gx_up]
  have c2 : (gx_up (gx_up (gx_up (gx_up K 0 3 (K 0 3 + 1)) 5 (K 0 3) v0) 6 (K 0 3) v1) 7 (K 0 3) v2) 0 2 = K 0 2 := by simp [gx_up]
  have c3 : (gx_up (gx_up (gx_up (gx_up K 0 3 (K 0 3 + 1)) 5 (K 0 3) v0) 6 (K 0 3) v1) 7 (K 0 3) v2) 0 3 = K 0 3 + 1 := by simp [gx_up]
  refine ⟨fun i hi => ?_, fun j hj => ?_, fun j hj => ?_, fun j hj => ?_, fun j hj => ?_, fun j hj => ?_, fun j hj => ?_, fun j hj => ?_⟩
  · rcases (show i = 0 ∨ i = 1 ∨ i = 2 ∨ i = 3 by omega) with rfl | rfl | rfl | rfl
    · rw [c0, upd_ne _ _ (by omega), upd_ne _ _ (by omega), upd_ne _ _ (by omega), upd_ne _ _ (by omega)]; exact h0 0 (by decide)
    · rw [c1, upd_ne _ _ (by omega), upd_ne _ _ (by omega), upd_ne _ _ (by omega), upd_ne _ _ (by omega)]; exact h0 1 (by decide)
    · rw [c2, upd_ne _ _ (by omega), upd_ne _ _ (by omega), upd_ne _ _ (by omega), upd_ne _ _ (by omega)]; exact h0 2 (by decide)
    · rw [c3, upd_ne _ _ (by omega), upd_ne _ _ (by omega), upd_ne _ _ (by omega), upd_eq]
  · rw [c0] at hj; rw [upd_ne _ _ (by omega), upd_ne _ _ (by omega), upd_ne _ _ (by omega), upd_ne _ _ (by omega), h1 j hj]; simp [gx_up]
  · rw [c1] at hj; rw [upd_ne _ _ (by omega), upd_ne _ _ (by omega), upd_ne _ _ (by omega), upd_ne _ _ (by omega), h2 j hj]; simp [gx_up]
  · rw [c1] at hj; rw [upd_ne _ _ (by omega), upd_ne _ _ (by omega), upd_ne _ _ (by omega), upd_ne _ _ (by omega), h3 j hj]; simp [gx_up]
  · rw [c2] at hj; rw [upd_ne _ _ (by omega), upd_ne _ _ (by omega), upd_ne _ _ (by omega), upd_ne _ _ (by omega), h4 j hj]; simp [gx_up]
  · rw [c3] at hj
    by_cases e : j = K 0 3
    · rw [e, upd_ne _ _ (by omega), upd_ne _ _ (by omega), upd_eq]; simp [gx_up]
    · rw [upd_ne _ _ (by omega), upd_ne _ _ (by omega), upd_ne _ _ (by omega), upd_ne _ _ (by omega), h5 j (by omega)]; simp [gx_up, e]
  · rw [c3] at hj
    by_cases e : j = K 0 3
    · rw [e, upd_ne _ _ (by omega), upd_eq]; simp [gx_up]
    · rw [upd_ne _ _ (by omega), upd_ne _ _ (by omega), upd_ne _ _ (by omega), upd_ne _ _ (by omega), h6 j (by omega)]; simp [gx_up, e]
  · rw [c3] at hj
    by_cases e : j = K 0 3
    · rw [e, upd_eq]; simp [gx_up]
    · rw [upd_ne _ _ (by omega), upd_ne _ _ (by omega), upd_ne _ _ (by omega), upd_ne _ _ (by omega), h7 j (by omega)]; simp [gx_up, e]
theorem gx_mc_ce {r : Nat → Int32} {K : gx_K} {v0 : Nat} (h : gx_mc r K) (kb : K 0 0 ≤ 10 ∧ K 0 1 ≤ 6 ∧ K 0 2 ≤ 6 ∧ K 0 3 ≤ 4) (hl : K 0 0 < 10) : gx_mc (upd (upd r (4 + K 0 0) (nI v0)) 0 (nI (K 0 0 + 1))) (gx_up (gx_up K 1 (K 0 0) v0) 0 0 (K 0 0 + 1)) := by
  obtain ⟨h0, h1, h2, h3, h4, h5, h6, h7⟩ := h
  obtain ⟨k0, k1, k2, k3⟩ := kb
  have c0 : (gx_up (gx_up K 1 (K 0 0) v0) 0 0 (K 0 0 + 1)) 0 0 = K 0 0 + 1 := by simp [gx_up]
  have c1 : (gx_up (gx_up K 1 (K 0 0) v0) 0 0 (K 0 0 + 1)) 0 1 = K 0 1 := by simp [gx_up]
  have c2 : (gx_up (gx_up K 1 (K 0 0) v0) 0 0 (K 0 0 + 1)) 0 2 = K 0 2 := by simp [gx_up]
  have c3 : (gx_up (gx_up K 1 (K 0 0) v0) 0 0 (K 0 0 + 1)) 0 3 = K 0 3 := by simp [gx_up]
  refine ⟨fun i hi => ?_, fun j hj => ?_, fun j hj => ?_, fun j hj => ?_, fun j hj => ?_, fun j hj => ?_, fun j hj => ?_, fun j hj => ?_⟩
  · rcases (show i = 0 ∨ i = 1 ∨ i = 2 ∨ i = 3 by omega) with rfl | rfl | rfl | rfl
    · rw [c0, upd_eq]
    · rw [c1, upd_ne _ _ (by omega), upd_ne _ _ (by omega)]; exact h0 1 (by decide)
    · rw [c2, upd_ne _ _ (by omega), upd_ne _ _ (by omega)]; exact h0 2 (by decide)
    · rw [c3, upd_ne _ _ (by omega), upd_ne _ _ (by omega)]; exact h0 3 (by decide)
  · rw [c0] at hj
    by_cases e : j = K 0 0
    · rw [e, upd_ne _ _ (by omega), upd_eq]; simp [gx_up]
    · rw [upd_ne _ _ (by omega), upd_ne _ _ (by omega), h1 j (by omega)]; simp [gx_up, e]
  · rw [c1] at hj; rw [upd_ne _ _ (by omega), upd_ne _ _ (by omega), h2 j hj]; simp [gx_up]
  · rw [c1] at hj; rw [upd_ne _ _ (by omega), upd_ne _ _ (by omega), h3 j hj]; simp [gx_up]
  · rw [c2] at hj; rw [upd_ne _ _ (by omega), upd_ne _ _ (by omega), h4 j hj]; simp [gx_up]
  · rw [c3] at hj; rw [upd_ne _ _ (by omega), upd_ne _ _ (by omega), h5 j hj]; simp [gx_up]
  · rw [c3] at hj; rw [upd_ne _ _ (by omega), upd_ne _ _ (by omega), h6 j hj]; simp [gx_up]
  · rw [c3] at hj; rw [upd_ne _ _ (by omega), upd_ne _ _ (by omega), h7 j hj]; simp [gx_up]
set_option maxRecDepth 100000 in
set_option maxHeartbeats 4000000 in
theorem c_X10_readsTower {l : Launch} {G : gt_G} {n : Nat} {w : gt_W} {x : Nat → Nat} {L : Nat} {s : gx_T} {K : gx_K} (hR : gx_Rt w x L (s.1 + 1)) (h19 : w 161 19 = nI s.1) (hx : gx_Tx x L) (hs : s.2.1 = 0) (hp : gx_skip x L s.1 = s.1) (hlt : s.1 < L) (hc : x s.1 = 116) (hK : gx_mc (w 163) K) (kb : gx_KB K) : gt_D l G yX10_readsTower cX10_readsTower 2 (some .boolean) 4 n [.ref 161] w (fun r w' => gx_rf w w' ∧ gx_ro r w' (gx_tw x L s K) ∧ ((gx_tw x L s K).2.1 = 0 → gx_mc (w' 163) (gx_twK x L s K))) := by
  refine gt_D_of (own := RX10) (nm := "readsTower") rfl rfl (by decide +kernel) (Nat.le_of_ble_eq_true rfl) ?_
  show gt_A _ _ _ _ _ _ _ _ _ _ _ [(0, .ref 161)] _ _
  refine ga_aload_n 0 dX10_readsTower_0 rfl ?_
  refine ga_get kf_X10_13 (sh161 _) rfl dX10_readsTower_1 ?_
  refine ga_iconst (nI 1) dX10_readsTower_4 (by decide) ?_
  refine ge_ialdE sh163 (gt_ixn (by decide)) (hK.1 1 (by decide)) dX10_readsTower_5 ?_
  refine gs_istore_n [(0, _), (1, _)] dX10_readsTower_6 (by decide) rfl rfl ?_
  refine ga_iload_n 1 dX10_readsTower_7 rfl ?_
  refine ga_bipush (nI 6) dX10_readsTower_8 (by decide) ?_
  refine ga_icmp_ne 19 dX10_readsTower_10 (by decide) (fun c_10 => ?_) (fun c_10 => ?_)
  · have h6 : ¬ 6 ≤ K 0 1 := fun q => c_10 (by rw [show K 0 1 = 6 by have := kb.2; omega])
    have hat : gx_sgn x L s 116 = (s.1 + 1, s.2) := gx_sgn_at hp hlt hc
    have eT : gx_tw x L s K = gx_sgn x L (gx_num x L (gx_num x L (s.1 + 1, s.2) 0 (K 0 0 - 1)) 1 (20)) 59 := by unfold gx_tw; rw [if_neg h6, hat]
    have eK : gx_twK x L s K = gx_up (gx_up (gx_up K 0 1 (K 0 1 + 1)) 2 (K 0 1) (gx_nv x L (s.1 + 1, s.2))) 3 (K 0 1) (gx_nv x L (gx_num x L (s.1 + 1, s.2) 0 (K 0 0 - 1))) := by unfold gx_twK; rw [if_neg h6, hat]
    rw [eT, eK]
    refine ga_aload_n 0 dX10_readsTower_19 rfl ?_
    refine ga_get kf_X10_13 (sh161 _) rfl dX10_readsTower_20 ?_
    refine ga_iconst (nI 1) dX10_readsTower_23 (by decide) ?_
    refine ga_dup2 dX10_readsTower_24 rfl rfl ?_
    refine ge_ialdE sh163 (gt_ixn (by decide)) (hK.1 1 (by decide)) dX10_readsTower_25 ?_
    refine ga_iconst (nI 1) dX10_readsTower_26 (by decide) ?_
    refine ga_iadd dX10_readsTower_27 ?_
    refine gw_iast (sh163) (k := 1) (gt_ixn (by decide)) dX10_readsTower_28 (fun w_28 o_28 e_28 => ?_)
    have f0 : gx_rf w w_28 := ⟨fun c h1 h2 => o_28 c h2, fun q _ => congrFun (o_28 161 (by decide)) q⟩
    have hR0 : gx_Rt w_28 x L (s.1 + 1) := gx_Rt_rf hR f0 (by rw [o_28 161 (by decide)]; exact hR.2.2)
    have hL0 : s.1 + 1 ≤ L := hlt
    refine ga_aload_n 0 dX10_readsTower_29 rfl ?_
    refine ga_bipush (nI 14) dX10_readsTower_30 (by decide) ?_
    refine ga_iload_n 1 dX10_readsTower_32 rfl ?_
    refine ga_iadd dX10_readsTower_33 ?_
    refine ga_top (nI (14 + K 0 1)) (nI_add 14 (K 0 1)) ?_
    refine ga_iconst (nI 0) dX10_readsTower_34 (by decide) ?_
    refine ga_aload_n 0 dX10_readsTower_35 rfl ?_
    refine ga_get kf_X10_13 (sh161 _) rfl dX10_readsTower_36 ?_
    refine ga_iconst (nI 0) dX10_readsTower_39 (by decide) ?_
    refine ge_ialdE sh163 (gt_ixn (by decide)) (show w_28 163 0 = nI (K 0 0) by rw [e_28, upd_ne _ _ (by decide)]; exact hK.1 0 (by decide)) dX10_readsTower_40 ?_
    refine ga_iconst (nI 1) dX10_readsTower_41 (by decide) ?_
    refine ga_isub dX10_readsTower_42 ?_
    refine ga_top (nI (K 0 0 - 1)) (pk_sub kb.1.1) ?_
    refine gd_V3 km_X10_124 kv_X10_number (c_X10_number (s := (s.1 + 1, s.2)) (pl := 14 + K 0 1) (lo := 0) (hi := K 0 0 - 1) hR0 hx hL0 hs (by have := kb.2; omega) (by omega) (by have := kb.1; omega)) (sh161 _) rfl rfl (gt_rc0 (by decide)) (Nat.le_of_ble_eq_true rfl) dX10_readsTower_43 (fun r_43 w_43 q_43 => ?_)
    obtain ⟨f1, ⟨rfl, ok0, no0⟩, hv0⟩ := q_43
    have g0 := f1
    have l0 : (gx_num x L (s.1 + 1, s.2) 0 (K 0 0 - 1)).1 ≤ L := gx_num_L hL0 _ _
    refine ga_if_eq 74 dX10_readsTower_46 (by decide) (fun c_46 => ?_) (fun c_46 => ?_)
    · have k0 := gx_if1 c_46
      have x1 : (gx_num x L (gx_num x L (s.1 + 1, s.2) 0 (K 0 0 - 1)) 1 (20)).2 = (gx_num x L (s.1 + 1, s.2) 0 (K 0 0 - 1)).2 := gx_num_k k0
      have y1 : ¬ (gx_num x L (gx_num x L (s.1 + 1, s.2) 0 (K 0 0 - 1)) 1 (20)).2.1 = 0 := by rw [x1]; exact k0
      have xe : (gx_sgn x L (gx_num x L (gx_num x L (s.1 + 1, s.2) 0 (K 0 0 - 1)) 1 (20)) 59).2 = (gx_num x L (gx_num x L (s.1 + 1, s.2) 0 (K 0 0 - 1)) 1 (20)).2 := gx_sgn_k y1
      have he : (gx_sgn x L (gx_num x L (gx_num x L (s.1 + 1, s.2) 0 (K 0 0 - 1)) 1 (20)) 59).2 = (gx_num x L (s.1 + 1, s.2) 0 (K 0 0 - 1)).2 := (xe).trans x1
      have hend : gx_rf w w_43 ∧ gx_ro (some (.int (nI 0))) w_43 (gx_sgn x L (gx_num x L (gx_num x L (s.1 + 1, s.2) 0 (K 0 0 - 1)) 1 (20)) 59) ∧ ((gx_sgn x L (gx_num x L (gx_num x L (s.1 + 1, s.2) 0 (K 0 0 - 1)) 1 (20)) 59).2.1 = 0 → gx_mc (w_43 163) (gx_up (gx_up (gx_up K 0 1 (K 0 1 + 1)) 2 (K 0 1) (gx_nv x L (s.1 + 1, s.2))) 3 (K 0 1) (gx_nv x L (gx_num x L (s.1 + 1, s.2) 0 (K 0 0 - 1))))) := ⟨gx_rf_tr f0 g0, gx_ro_fail he k0 (no0 k0), fun q => absurd (show (gx_num x L (s.1 + 1, s.2) 0 (K 0 0 - 1)).2.1 = 0 by rw [← he]; exact q) k0⟩
      refine ga_iconst (nI 0) dX10_readsTower_74 (by decide) ?_
      exact gd_zret dX10_readsTower_75 (by decide) hend
    · have k0 := gx_if0 c_46
      refine ga_aload_n 0 dX10_readsTower_49 rfl ?_
      refine ga_bipush (nI 20) dX10_readsTower_50 (by decide) ?_
      refine ga_iload_n 1 dX10_readsTower_52 rfl ?_
      refine ga_iadd dX10_readsTower_53 ?_
      refine ga_top (nI (20 + K 0 1)) (nI_add 20 (K 0 1)) ?_
      refine ga_iconst (nI 1) dX10_readsTower_54 (by decide) ?_
      refine ga_bipush (nI 20) dX10_readsTower_55 (by decide) ?_
      refine gd_V3 km_X10_124 kv_X10_number (c_X10_number (s := (gx_num x L (s.1 + 1, s.2) 0 (K 0 0 - 1))) (pl := 20 + K 0 1) (lo := 1) (hi := 20) (gx_Rt_rf hR0 g0 (ok0 k0)) hx l0 k0 (by have := kb.2; omega) (by omega) (by have := kb.1; omega)) (sh161 _) rfl rfl (gt_rc0 (by decide)) (Nat.le_of_ble_eq_true rfl) dX10_readsTower_57 (fun r_57 w_57 q_57 => ?_)
      obtain ⟨f2, ⟨rfl, ok1, no1⟩, hv1⟩ := q_57
      have g1 := gx_rf_tr g0 f2
      have l1 : (gx_num x L (gx_num x L (s.1 + 1, s.2) 0 (K 0 0 - 1)) 1 (20)).1 ≤ L := gx_num_L l0 _ _
      refine ga_if_eq 74 dX10_readsTower_60 (by decide) (fun c_60 => ?_) (fun c_60 => ?_)
      · have k1 := gx_if1 c_60
        have xe : (gx_sgn x L (gx_num x L (gx_num x L (s.1 + 1, s.2) 0 (K 0 0 - 1)) 1 (20)) 59).2 = (gx_num x L (gx_num x L (s.1 + 1, s.2) 0 (K 0 0 - 1)) 1 (20)).2 := gx_sgn_k k1
        have he : (gx_sgn x L (gx_num x L (gx_num x L (s.1 + 1, s.2) 0 (K 0 0 - 1)) 1 (20)) 59).2 = (gx_num x L (gx_num x L (s.1 + 1, s.2) 0 (K 0 0 - 1)) 1 (20)).2 := xe
        have hend : gx_rf w w_57 ∧ gx_ro (some (.int (nI 0))) w_57 (gx_sgn x L (gx_num x L (gx_num x L (s.1 + 1, s.2) 0 (K 0 0 - 1)) 1 (20)) 59) ∧ ((gx_sgn x L (gx_num x L (gx_num x L (s.1 + 1, s.2) 0 (K 0 0 - 1)) 1 (20)) 59).2.1 = 0 → gx_mc (w_57 163) (gx_up (gx_up (gx_up K 0 1 (K 0 1 + 1)) 2 (K 0 1) (gx_nv x L (s.1 + 1, s.2))) 3 (K 0 1) (gx_nv x L (gx_num x L (s.1 + 1, s.2) 0 (K 0 0 - 1))))) := ⟨gx_rf_tr f0 g1, gx_ro_fail he k1 (no1 k1), fun q => absurd (show (gx_num x L (gx_num x L (s.1 + 1, s.2) 0 (K 0 0 - 1)) 1 (20)).2.1 = 0 by rw [← he]; exact q) k1⟩
        refine ga_iconst (nI 0) dX10_readsTower_74 (by decide) ?_
        exact gd_zret dX10_readsTower_75 (by decide) hend
      · have k1 := gx_if0 c_60
        refine ga_aload_n 0 dX10_readsTower_63 rfl ?_
        refine gd_V0 km_X10_128 kv_X10_ends (c_X10_ends (s := (gx_num x L (gx_num x L (s.1 + 1, s.2) 0 (K 0 0 - 1)) 1 (20))) (gx_Rt_rf hR0 g1 (ok1 k1)) hx l1 k1) (sh161 _) rfl rfl (gt_rc0 (by decide)) (Nat.le_of_ble_eq_true rfl) dX10_readsTower_64 (fun r_64 w_64 q_64 => ?_)
        obtain ⟨fE, ⟨rfl, okE, noE⟩, eE⟩ := q_64
        refine ga_if_eq 74 dX10_readsTower_67 (by decide) (fun c_67 => ?_) (fun c_67 => ?_)
        · have kE := gx_if1 c_67
          have hend : gx_rf w w_64 ∧ gx_ro (some (.int (nI 0))) w_64 (gx_sgn x L (gx_num x L (gx_num x L (s.1 + 1, s.2) 0 (K 0 0 - 1)) 1 (20)) 59) ∧ ((gx_sgn x L (gx_num x L (gx_num x L (s.1 + 1, s.2) 0 (K 0 0 - 1)) 1 (20)) 59).2.1 = 0 → gx_mc (w_64 163) (gx_up (gx_up (gx_up K 0 1 (K 0 1 + 1)) 2 (K 0 1) (gx_nv x L (s.1 + 1, s.2))) 3 (K 0 1) (gx_nv x L (gx_num x L (s.1 + 1, s.2) 0 (K 0 0 - 1))))) := ⟨gx_rf_tr f0 (gx_rf_tr g1 fE), gx_ro_fail rfl kE (noE kE), fun q => absurd q kE⟩
          refine ga_iconst (nI 0) dX10_readsTower_74 (by decide) ?_
          exact gd_zret dX10_readsTower_75 (by decide) hend
        · have kE := gx_if0 c_67
          have hend : gx_rf w w_64 ∧ gx_ro (some (.int (nI 1))) w_64 (gx_sgn x L (gx_num x L (gx_num x L (s.1 + 1, s.2) 0 (K 0 0 - 1)) 1 (20)) 59) ∧ ((gx_sgn x L (gx_num x L (gx_num x L (s.1 + 1, s.2) 0 (K 0 0 - 1)) 1 (20)) 59).2.1 = 0 → gx_mc (w_64 163) (gx_up (gx_up (gx_up K 0 1 (K 0 1 + 1)) 2 (K 0 1) (gx_nv x L (s.1 + 1, s.2))) 3 (K 0 1) (gx_nv x L (gx_num x L (s.1 + 1, s.2) 0 (K 0 0 - 1))))) := ⟨gx_rf_tr f0 (gx_rf_tr g1 fE), gx_ro_ok kE (okE kE), fun _ => by rw [eE, (hv1 k1), (hv0 k0), e_28, nI_add]; exact gx_mc_tw hK ⟨kb.1.2, kb.2.1, kb.2.2.1, kb.2.2.2⟩ (by omega)⟩
          refine ga_iconst (nI 1) dX10_readsTower_70 (by decide) ?_
          refine ga_goto 75 dX10_readsTower_71 (by decide) ?_
          exact gd_zret dX10_readsTower_75 (by decide) hend
  · have h6 : 6 ≤ K 0 1 := by have := (nI_eq (by have := kb.2; omega) (by decide)).mp c_10; omega
    have eT : gx_tw x L s K = (s.1, 3, s.1 + 1) := by unfold gx_tw; rw [if_pos h6, gx_fl_g hs]
    refine ga_aload_n 0 dX10_readsTower_13 rfl ?_
    refine ga_iconst (nI 3) dX10_readsTower_14 (by decide) ?_
    refine gd_V1 km_X10_120 kv_X10_fails c_X10_fails (sh161 _) rfl rfl (gt_rc0 (by decide)) (Nat.le_of_ble_eq_true rfl) dX10_readsTower_15 (fun r_15 w_15 q_15 => ?_)
    obtain ⟨rfl, oF, eF⟩ := q_15
    exact gd_zret dX10_readsTower_18 (by decide) ⟨⟨fun c h1 _ => oF c h1, fun q hq => by rw [eF, upd_ne _ _ (by omega)]⟩, gx_ro_fail (s := gx_tw x L s K) rfl (by simp [eT]) (by rw [eT]; exact ⟨by rw [eF, upd_eq], by rw [eF, upd_ne _ _ (by decide)]; exact h19.trans (gx_seat_s s.1).symm⟩), fun q => absurd q (by simp [eT])⟩
set_option maxRecDepth 100000 in
set_option maxHeartbeats 4000000 in
theorem c_X10_readsPlayer {l : Launch} {G : gt_G} {n : Nat} {w : gt_W} {x : Nat → Nat} {L : Nat} {s : gx_T} {K : gx_K} (hR : gx_Rt w x L (s.1 + 1)) (h19 : w 161 19 = nI s.1) (hx : gx_Tx x L) (hs : s.2.1 = 0) (hp : gx_skip x L s.1 = s.1) (hlt : s.1 < L) (hc : x s.1 = 112) (hK : gx_mc (w 163) K) (kb : gx_KB K) : gt_D l G yX10_readsPlayer cX10_readsPlayer 2 (some .boolean) 4 n [.ref 161] w (fun r w' => gx_rf w w' ∧ gx_ro r w' (gx_pl x L s K) ∧ ((gx_pl x L s K).2.1 = 0 → gx_mc (w' 163) (gx_plK x L s K))) := by
  refine gt_D_of (own := RX10) (nm := "readsPlayer") rfl rfl (by decide +kernel) (Nat.le_of_ble_eq_true rfl) ?_
  show gt_A _ _ _ _ _ _ _ _ _ _ _ [(0, .ref 161)] _ _
  refine ga_aload_n 0 dX10_readsPlayer_0 rfl ?_
  refine ga_get kf_X10_13 (sh161 _) rfl dX10_readsPlayer_1 ?_
  refine ga_iconst (nI 2) dX10_readsPlayer_4 (by decide) ?_
  refine ge_ialdE sh163 (gt_ixn (by decide)) (hK.1 2 (by decide)) dX10_readsPlayer_5 ?_
  refine gs_istore_n [(0, _), (1, _)] dX10_readsPlayer_6 (by decide) rfl rfl ?_
  refine ga_iload_n 1 dX10_readsPlayer_7 rfl ?_
  refine ga_bipush (nI 6) dX10_readsPlayer_8 (by decide) ?_
  refine ga_icmp_ne 19 dX10_readsPlayer_10 (by decide) (fun c_10 => ?_) (fun c_10 => ?_)
  · have h6 : ¬ 6 ≤ K 0 2 := fun q => c_10 (by rw [show K 0 2 = 6 by have := kb.2; omega])
    have hat : gx_sgn x L s 112 = (s.1 + 1, s.2) := gx_sgn_at hp hlt hc
    have eT : gx_pl x L s K = gx_sgn x L (gx_num x L (s.1 + 1, s.2) 1 (9)) 59 := by unfold gx_pl; rw [if_neg h6, hat]
    have eK : gx_plK x L s K = gx_up (gx_up K 0 2 (K 0 2 + 1)) 4 (K 0 2) (gx_nv x L (s.1 + 1, s.2)) := by unfold gx_plK; rw [if_neg h6, hat]
    rw [eT, eK]
    refine ga_aload_n 0 dX10_readsPlayer_19 rfl ?_
    refine ga_get kf_X10_13 (sh161 _) rfl dX10_readsPlayer_20 ?_
    refine ga_iconst (nI 2) dX10_readsPlayer_23 (by decide) ?_
    refine ga_dup2 dX10_readsPlayer_24 rfl rfl ?_
    refine ge_ialdE sh163 (gt_ixn (by decide)) (hK.1 2 (by decide)) dX10_readsPlayer_25 ?_
    refine ga_iconst (nI 1) dX10_readsPlayer_26 (by decide) ?_
    refine ga_iadd dX10_readsPlayer_27 ?_
    refine gw_iast (sh163) (k := 2) (gt_ixn (by decide)) dX10_readsPlayer_28 (fun w_28 o_28 e_28 => ?_)
    have f0 : gx_rf w w_28 := ⟨fun c h1 h2 => o_28 c h2, fun q _ => congrFun (o_28 161 (by decide)) q⟩
    have hR0 : gx_Rt w_28 x L (s.1 + 1) := gx_Rt_rf hR f0 (by rw [o_28 161 (by decide)]; exact hR.2.2)
    have hL0 : s.1 + 1 ≤ L := hlt
    refine ga_aload_n 0 dX10_readsPlayer_29 rfl ?_
    refine ga_bipush (nI 26) dX10_readsPlayer_30 (by decide) ?_
    refine ga_iload_n 1 dX10_readsPlayer_32 rfl ?_
    refine ga_iadd dX10_readsPlayer_33 ?_
    refine ga_top (nI (26 + K 0 2)) (nI_add 26 (K 0 2)) ?_
    refine ga_iconst (nI 1) dX10_readsPlayer_34 (by decide) ?_
    refine ga_bipush (nI 9) dX10_readsPlayer_35 (by decide) ?_
    refine gd_V3 km_X10_124 kv_X10_number (c_X10_number (s := (s.1 + 1, s.2)) (pl := 26 + K 0 2) (lo := 1) (hi := 9) hR0 hx hL0 hs (by have := kb.2; omega) (by omega) (by have := kb.1; omega)) (sh161 _) rfl rfl (gt_rc0 (by decide)) (Nat.le_of_ble_eq_true rfl) dX10_readsPlayer_37 (fun r_37 w_37 q_37 => ?_)
    obtain ⟨f1, ⟨rfl, ok0, no0⟩, hv0⟩ := q_37
    have g0 := f1
    have l0 : (gx_num x L (s.1 + 1, s.2) 1 (9)).1 ≤ L := gx_num_L hL0 _ _
    refine ga_if_eq 54 dX10_readsPlayer_40 (by decide) (fun c_40 => ?_) (fun c_40 => ?_)
    · have k0 := gx_if1 c_40
      have xe : (gx_sgn x L (gx_num x L (s.1 + 1, s.2) 1 (9)) 59).2 = (gx_num x L (s.1 + 1, s.2) 1 (9)).2 := gx_sgn_k k0
      have he : (gx_sgn x L (gx_num x L (s.1 + 1, s.2) 1 (9)) 59).2 = (gx_num x L (s.1 + 1, s.2) 1 (9)).2 := xe
      have hend : gx_rf w w_37 ∧ gx_ro (some (.int (nI 0))) w_37 (gx_sgn x L (gx_num x L (s.1 + 1, s.2) 1 (9)) 59) ∧ ((gx_sgn x L (gx_num x L (s.1 + 1, s.2) 1 (9)) 59).2.1 = 0 → gx_mc (w_37 163) (gx_up (gx_up K 0 2 (K 0 2 + 1)) 4 (K 0 2) (gx_nv x L (s.1 + 1, s.2)))) := ⟨gx_rf_tr f0 g0, gx_ro_fail he k0 (no0 k0), fun q => absurd (show (gx_num x L (s.1 + 1, s.2) 1 (9)).2.1 = 0 by rw [← he]; exact q) k0⟩
      refine ga_iconst (nI 0) dX10_readsPlayer_54 (by decide) ?_
      exact gd_zret dX10_readsPlayer_55 (by decide) hend
    · have k0 := gx_if0 c_40
      refine ga_aload_n 0 dX10_readsPlayer_43 rfl ?_
      refine gd_V0 km_X10_128 kv_X10_ends (c_X10_ends (s := (gx_num x L (s.1 + 1, s.2) 1 (9))) (gx_Rt_rf hR0 g0 (ok0 k0)) hx l0 k0) (sh161 _) rfl rfl (gt_rc0 (by decide)) (Nat.le_of_ble_eq_true rfl) dX10_readsPlayer_44 (fun r_44 w_44 q_44 => ?_)
      obtain ⟨fE, ⟨rfl, okE, noE⟩, eE⟩ := q_44
      refine ga_if_eq 54 dX10_readsPlayer_47 (by decide) (fun c_47 => ?_) (fun c_47 => ?_)
      · have kE := gx_if1 c_47
        have hend : gx_rf w w_44 ∧ gx_ro (some (.int (nI 0))) w_44 (gx_sgn x L (gx_num x L (s.1 + 1, s.2) 1 (9)) 59) ∧ ((gx_sgn x L (gx_num x L (s.1 + 1, s.2) 1 (9)) 59).2.1 = 0 → gx_mc (w_44 163) (gx_up (gx_up K 0 2 (K 0 2 + 1)) 4 (K 0 2) (gx_nv x L (s.1 + 1, s.2)))) := ⟨gx_rf_tr f0 (gx_rf_tr g0 fE), gx_ro_fail rfl kE (noE kE), fun q => absurd q kE⟩
        refine ga_iconst (nI 0) dX10_readsPlayer_54 (by decide) ?_
        exact gd_zret dX10_readsPlayer_55 (by decide) hend
      · have kE := gx_if0 c_47
        have hend : gx_rf w w_44 ∧ gx_ro (some (.int (nI 1))) w_44 (gx_sgn x L (gx_num x L (s.1 + 1, s.2) 1 (9)) 59) ∧ ((gx_sgn x L (gx_num x L (s.1 + 1, s.2) 1 (9)) 59).2.1 = 0 → gx_mc (w_44 163) (gx_up (gx_up K 0 2 (K 0 2 + 1)) 4 (K 0 2) (gx_nv x L (s.1 + 1, s.2)))) := ⟨gx_rf_tr f0 (gx_rf_tr g0 fE), gx_ro_ok kE (okE kE), fun _ => by rw [eE, (hv0 k0), e_28, nI_add]; exact gx_mc_pl hK ⟨kb.1.2, kb.2.1, kb.2.2.1, kb.2.2.2⟩ (by omega)⟩
        refine ga_iconst (nI 1) dX10_readsPlayer_50 (by decide) ?_
        refine ga_goto 55 dX10_readsPlayer_51 (by decide) ?_
        exact gd_zret dX10_readsPlayer_55 (by decide) hend
  · have h6 : 6 ≤ K 0 2 := by have := (nI_eq (by have := kb.2; omega) (by decide)).mp c_10; omega
    have eT : gx_pl x L s K = (s.1, 3, s.1 + 1) := by unfold gx_pl; rw [if_pos h6, gx_fl_g hs]
    refine ga_aload_n 0 dX10_readsPlayer_13 rfl ?_
    refine ga_iconst (nI 3) dX10_readsPlayer_14 (by decide) ?_
    refine gd_V1 km_X10_120 kv_X10_fails c_X10_fails (sh161 _) rfl rfl (gt_rc0 (by decide)) (Nat.le_of_ble_eq_true rfl) dX10_readsPlayer_15 (fun r_15 w_15 q_15 => ?_)
    obtain ⟨rfl, oF, eF⟩ := q_15
    exact gd_zret dX10_readsPlayer_18 (by decide) ⟨⟨fun c h1 _ => oF c h1, fun q hq => by rw [eF, upd_ne _ _ (by omega)]⟩, gx_ro_fail (s := gx_pl x L s K) rfl (by simp [eT]) (by rw [eT]; exact ⟨by rw [eF, upd_eq], by rw [eF, upd_ne _ _ (by decide)]; exact h19.trans (gx_seat_s s.1).symm⟩), fun q => absurd q (by simp [eT])⟩
set_option maxRecDepth 100000 in
set_option maxHeartbeats 4000000 in
theorem c_X10_readsBoat {l : Launch} {G : gt_G} {n : Nat} {w : gt_W} {x : Nat → Nat} {L : Nat} {s : gx_T} {K : gx_K} (hR : gx_Rt w x L (s.1 + 1)) (h19 : w 161 19 = nI s.1) (hx : gx_Tx x L) (hs : s.2.1 = 0) (hp : gx_skip x L s.1 = s.1) (hlt : s.1 < L) (hc : x s.1 = 98) (hK : gx_mc (w 163) K) (kb : gx_KB K) : gt_D l G yX10_readsBoat cX10_readsBoat 2 (some .boolean) 4 n [.ref 161] w (fun r w' => gx_rf w w' ∧ gx_ro r w' (gx_bo x L s K) ∧ ((gx_bo x L s K).2.1 = 0 → gx_mc (w' 163) (gx_boK x L s K))) := by
  refine gt_D_of (own := RX10) (nm := "readsBoat") rfl rfl (by decide +kernel) (Nat.le_of_ble_eq_true rfl) ?_
  show gt_A _ _ _ _ _ _ _ _ _ _ _ [(0, .ref 161)] _ _
  refine ga_aload_n 0 dX10_readsBoat_0 rfl ?_
  refine ga_get kf_X10_13 (sh161 _) rfl dX10_readsBoat_1 ?_
  refine ga_iconst (nI 3) dX10_readsBoat_4 (by decide) ?_
  refine ge_ialdE sh163 (gt_ixn (by decide)) (hK.1 3 (by decide)) dX10_readsBoat_5 ?_
  refine gs_istore_n [(0, _), (1, _)] dX10_readsBoat_6 (by decide) rfl rfl ?_
  refine ga_iload_n 1 dX10_readsBoat_7 rfl ?_
  refine ga_iconst (nI 4) dX10_readsBoat_8 (by decide) ?_
  refine ga_icmp_ne 18 dX10_readsBoat_9 (by decide) (fun c_9 => ?_) (fun c_9 => ?_)
  · have h6 : ¬ 4 ≤ K 0 3 := fun q => c_9 (by rw [show K 0 3 = 4 by have := kb.2; omega])
    have hat : gx_sgn x L s 98 = (s.1 + 1, s.2) := gx_sgn_at hp hlt hc
    have eT : gx_bo x L s K = gx_sgn x L (gx_num x L (gx_num x L (gx_num x L (s.1 + 1, s.2) 1 (30)) 0 (K 0 0 - 1)) 0 (K 0 0 - 1)) 59 := by unfold gx_bo; rw [if_neg h6, hat]
    have eK : gx_boK x L s K = gx_up (gx_up (gx_up (gx_up K 0 3 (K 0 3 + 1)) 5 (K 0 3) (gx_nv x L (s.1 + 1, s.2))) 6 (K 0 3) (gx_nv x L (gx_num x L (s.1 + 1, s.2) 1 (30)))) 7 (K 0 3) (gx_nv x L (gx_num x L (gx_num x L (s.1 + 1, s.2) 1 (30)) 0 (K 0 0 - 1))) := by unfold gx_boK; rw [if_neg h6, hat]
    rw [eT, eK]
    refine ga_aload_n 0 dX10_readsBoat_18 rfl ?_
    refine ga_get kf_X10_13 (sh161 _) rfl dX10_readsBoat_19 ?_
    refine ga_iconst (nI 3) dX10_readsBoat_22 (by decide) ?_
    refine ga_dup2 dX10_readsBoat_23 rfl rfl ?_
    refine ge_ialdE sh163 (gt_ixn (by decide)) (hK.1 3 (by decide)) dX10_readsBoat_24 ?_
    refine ga_iconst (nI 1) dX10_readsBoat_25 (by decide) ?_
    refine ga_iadd dX10_readsBoat_26 ?_
    refine gw_iast (sh163) (k := 3) (gt_ixn (by decide)) dX10_readsBoat_27 (fun w_27 o_27 e_27 => ?_)
    have f0 : gx_rf w w_27 := ⟨fun c h1 h2 => o_27 c h2, fun q _ => congrFun (o_27 161 (by decide)) q⟩
    have hR0 : gx_Rt w_27 x L (s.1 + 1) := gx_Rt_rf hR f0 (by rw [o_27 161 (by decide)]; exact hR.2.2)
    have hL0 : s.1 + 1 ≤ L := hlt
    refine ga_aload_n 0 dX10_readsBoat_28 rfl ?_
    refine ga_bipush (nI 32) dX10_readsBoat_29 (by decide) ?_
    refine ga_iload_n 1 dX10_readsBoat_31 rfl ?_
    refine ga_iadd dX10_readsBoat_32 ?_
    refine ga_top (nI (32 + K 0 3)) (nI_add 32 (K 0 3)) ?_
    refine ga_iconst (nI 1) dX10_readsBoat_33 (by decide) ?_
    refine ga_bipush (nI 30) dX10_readsBoat_34 (by decide) ?_
    refine gd_V3 km_X10_124 kv_X10_number (c_X10_number (s := (s.1 + 1, s.2)) (pl := 32 + K 0 3) (lo := 1) (hi := 30) hR0 hx hL0 hs (by have := kb.2; omega) (by omega) (by have := kb.1; omega)) (sh161 _) rfl rfl (gt_rc0 (by decide)) (Nat.le_of_ble_eq_true rfl) dX10_readsBoat_36 (fun r_36 w_36 q_36 => ?_)
    obtain ⟨f1, ⟨rfl, ok0, no0⟩, hv0⟩ := q_36
    have g0 := f1
    have l0 : (gx_num x L (s.1 + 1, s.2) 1 (30)).1 ≤ L := gx_num_L hL0 _ _
    refine ga_if_eq 93 dX10_readsBoat_39 (by decide) (fun c_39 => ?_) (fun c_39 => ?_)
    · have k0 := gx_if1 c_39
      have x1 : (gx_num x L (gx_num x L (s.1 + 1, s.2) 1 (30)) 0 (K 0 0 - 1)).2 = (gx_num x L (s.1 + 1, s.2) 1 (30)).2 := gx_num_k k0
      have y1 : ¬ (gx_num x L (gx_num x L (s.1 + 1, s.2) 1 (30)) 0 (K 0 0 - 1)).2.1 = 0 := by rw [x1]; exact k0
      have x2 : (gx_num x L (gx_num x L (gx_num x L (s.1 + 1, s.2) 1 (30)) 0 (K 0 0 - 1)) 0 (K 0 0 - 1)).2 = (gx_num x L (gx_num x L (s.1 + 1, s.2) 1 (30)) 0 (K 0 0 - 1)).2 := gx_num_k y1
      have y2 : ¬ (gx_num x L (gx_num x L (gx_num x L (s.1 + 1, s.2) 1 (30)) 0 (K 0 0 - 1)) 0 (K 0 0 - 1)).2.1 = 0 := by rw [x2]; exact y1
      have xe : (gx_sgn x L (gx_num x L (gx_num x L (gx_num x L (s.1 + 1, s.2) 1 (30)) 0 (K 0 0 - 1)) 0 (K 0 0 - 1)) 59).2 = (gx_num x L (gx_num x L (gx_num x L (s.1 + 1, s.2) 1 (30)) 0 (K 0 0 - 1)) 0 (K 0 0 - 1)).2 := gx_sgn_k y2
      have he : (gx_sgn x L (gx_num x L (gx_num x L (gx_num x L (s.1 + 1, s.2) 1 (30)) 0 (K 0 0 - 1)) 0 (K 0 0 - 1)) 59).2 = (gx_num x L (s.1 + 1, s.2) 1 (30)).2 := ((xe).trans x2).trans x1
      have hend : gx_rf w w_36 ∧ gx_ro (some (.int (nI 0))) w_36 (gx_sgn x L (gx_num x L (gx_num x L (gx_num x L (s.1 + 1, s.2) 1 (30)) 0 (K 0 0 - 1)) 0 (K 0 0 - 1)) 59) ∧ ((gx_sgn x L (gx_num x L (gx_num x L (gx_num x L (s.1 + 1, s.2) 1 (30)) 0 (K 0 0 - 1)) 0 (K 0 0 - 1)) 59).2.1 = 0 → gx_mc (w_36 163) (gx_up (gx_up (gx_up (gx_up K 0 3 (K 0 3 + 1)) 5 (K 0 3) (gx_nv x L (s.1 + 1, s.2))) 6 (K 0 3) (gx_nv x L (gx_num x L (s.1 + 1, s.2) 1 (30)))) 7 (K 0 3) (gx_nv x L (gx_num x L (gx_num x L (s.1 + 1, s.2) 1 (30)) 0 (K 0 0 - 1))))) := ⟨gx_rf_tr f0 g0, gx_ro_fail he k0 (no0 k0), fun q => absurd (show (gx_num x L (s.1 + 1, s.2) 1 (30)).2.1 = 0 by rw [← he]; exact q) k0⟩
      refine ga_iconst (nI 0) dX10_readsBoat_93 (by decide) ?_
      exact gd_zret dX10_readsBoat_94 (by decide) hend
    · have k0 := gx_if0 c_39
      refine ga_aload_n 0 dX10_readsBoat_42 rfl ?_
      refine ga_bipush (nI 36) dX10_readsBoat_43 (by decide) ?_
      refine ga_iload_n 1 dX10_readsBoat_45 rfl ?_
      refine ga_iadd dX10_readsBoat_46 ?_
      refine ga_top (nI (36 + K 0 3)) (nI_add 36 (K 0 3)) ?_
      refine ga_iconst (nI 0) dX10_readsBoat_47 (by decide) ?_
      refine ga_aload_n 0 dX10_readsBoat_48 rfl ?_
      refine ga_get kf_X10_13 (sh161 _) rfl dX10_readsBoat_49 ?_
      refine ga_iconst (nI 0) dX10_readsBoat_52 (by decide) ?_
      refine ge_ialdE sh163 (gt_ixn (by decide)) (show w_36 163 0 = nI (K 0 0) by rw [(hv0 k0), upd_ne _ _ (by omega), e_27, upd_ne _ _ (by decide)]; exact hK.1 0 (by decide)) dX10_readsBoat_53 ?_
      refine ga_iconst (nI 1) dX10_readsBoat_54 (by decide) ?_
      refine ga_isub dX10_readsBoat_55 ?_
      refine ga_top (nI (K 0 0 - 1)) (pk_sub kb.1.1) ?_
      refine gd_V3 km_X10_124 kv_X10_number (c_X10_number (s := (gx_num x L (s.1 + 1, s.2) 1 (30))) (pl := 36 + K 0 3) (lo := 0) (hi := K 0 0 - 1) (gx_Rt_rf hR0 g0 (ok0 k0)) hx l0 k0 (by have := kb.2; omega) (by omega) (by have := kb.1; omega)) (sh161 _) rfl rfl (gt_rc0 (by decide)) (Nat.le_of_ble_eq_true rfl) dX10_readsBoat_56 (fun r_56 w_56 q_56 => ?_)
      obtain ⟨f2, ⟨rfl, ok1, no1⟩, hv1⟩ := q_56
      have g1 := gx_rf_tr g0 f2
      have l1 : (gx_num x L (gx_num x L (s.1 + 1, s.2) 1 (30)) 0 (K 0 0 - 1)).1 ≤ L := gx_num_L l0 _ _
      refine ga_if_eq 93 dX10_readsBoat_59 (by decide) (fun c_59 => ?_) (fun c_59 => ?_)
      · have k1 := gx_if1 c_59
        have x2 : (gx_num x L (gx_num x L (gx_num x L (s.1 + 1, s.2) 1 (30)) 0 (K 0 0 - 1)) 0 (K 0 0 - 1)).2 = (gx_num x L (gx_num x L (s.1 + 1, s.2) 1 (30)) 0 (K 0 0 - 1)).2 := gx_num_k k1
        have y2 : ¬ (gx_num x L (gx_num x L (gx_num x L (s.1 + 1, s.2) 1 (30)) 0 (K 0 0 - 1)) 0 (K 0 0 - 1)).2.1 = 0 := by rw [x2]; exact k1
        have xe : (gx_sgn x L (gx_num x L (gx_num x L (gx_num x L (s.1 + 1, s.2) 1 (30)) 0 (K 0 0 - 1)) 0 (K 0 0 - 1)) 59).2 = (gx_num x L (gx_num x L (gx_num x L (s.1 + 1, s.2) 1 (30)) 0 (K 0 0 - 1)) 0 (K 0 0 - 1)).2 := gx_sgn_k y2
        have he : (gx_sgn x L (gx_num x L (gx_num x L (gx_num x L (s.1 + 1, s.2) 1 (30)) 0 (K 0 0 - 1)) 0 (K 0 0 - 1)) 59).2 = (gx_num x L (gx_num x L (s.1 + 1, s.2) 1 (30)) 0 (K 0 0 - 1)).2 := (xe).trans x2
        have hend : gx_rf w w_56 ∧ gx_ro (some (.int (nI 0))) w_56 (gx_sgn x L (gx_num x L (gx_num x L (gx_num x L (s.1 + 1, s.2) 1 (30)) 0 (K 0 0 - 1)) 0 (K 0 0 - 1)) 59) ∧ ((gx_sgn x L (gx_num x L (gx_num x L (gx_num x L (s.1 + 1, s.2) 1 (30)) 0 (K 0 0 - 1)) 0 (K 0 0 - 1)) 59).2.1 = 0 → gx_mc (w_56 163) (gx_up (gx_up (gx_up (gx_up K 0 3 (K 0 3 + 1)) 5 (K 0 3) (gx_nv x L (s.1 + 1, s.2))) 6 (K 0 3) (gx_nv x L (gx_num x L (s.1 + 1, s.2) 1 (30)))) 7 (K 0 3) (gx_nv x L (gx_num x L (gx_num x L (s.1 + 1, s.2) 1 (30)) 0 (K 0 0 - 1))))) := ⟨gx_rf_tr f0 g1, gx_ro_fail he k1 (no1 k1), fun q => absurd (show (gx_num x L (gx_num x L (s.1 + 1, s.2) 1 (30)) 0 (K 0 0 - 1)).2.1 = 0 by rw [← he]; exact q) k1⟩
        refine ga_iconst (nI 0) dX10_readsBoat_93 (by decide) ?_
        exact gd_zret dX10_readsBoat_94 (by decide) hend
      · have k1 := gx_if0 c_59
        refine ga_aload_n 0 dX10_readsBoat_62 rfl ?_
        refine ga_bipush (nI 40) dX10_readsBoat_63 (by decide) ?_
        refine ga_iload_n 1 dX10_readsBoat_65 rfl ?_
        refine ga_iadd dX10_readsBoat_66 ?_
        refine ga_top (nI (40 + K 0 3)) (nI_add 40 (K 0 3)) ?_
        refine ga_iconst (nI 0) dX10_readsBoat_67 (by decide) ?_
        refine ga_aload_n 0 dX10_readsBoat_68 rfl ?_
        refine ga_get kf_X10_13 (sh161 _) rfl dX10_readsBoat_69 ?_
        refine ga_iconst (nI 0) dX10_readsBoat_72 (by decide) ?_
        refine ge_ialdE sh163 (gt_ixn (by decide)) (show w_56 163 0 = nI (K 0 0) by rw [(hv1 k1), upd_ne _ _ (by omega), (hv0 k0), upd_ne _ _ (by omega), e_27, upd_ne _ _ (by decide)]; exact hK.1 0 (by decide)) dX10_readsBoat_73 ?_
        refine ga_iconst (nI 1) dX10_readsBoat_74 (by decide) ?_
        refine ga_isub dX10_readsBoat_75 ?_
        refine ga_top (nI (K 0 0 - 1)) (pk_sub kb.1.1) ?_
        refine gd_V3 km_X10_124 kv_X10_number (c_X10_number (s := (gx_num x L (gx_num x L (s.1 + 1, s.2) 1 (30)) 0 (K 0 0 - 1))) (pl := 40 + K 0 3) (lo := 0) (hi := K 0 0 - 1) (gx_Rt_rf hR0 g1 (ok1 k1)) hx l1 k1 (by have := kb.2; omega) (by omega) (by have := kb.1; omega)) (sh161 _) rfl rfl (gt_rc0 (by decide)) (Nat.le_of_ble_eq_true rfl) dX10_readsBoat_76 (fun r_76 w_76 q_76 => ?_)
        obtain ⟨f3, ⟨rfl, ok2, no2⟩, hv2⟩ := q_76
        have g2 := gx_rf_tr g1 f3
        have l2 : (gx_num x L (gx_num x L (gx_num x L (s.1 + 1, s.2) 1 (30)) 0 (K 0 0 - 1)) 0 (K 0 0 - 1)).1 ≤ L := gx_num_L l1 _ _
        refine ga_if_eq 93 dX10_readsBoat_79 (by decide) (fun c_79 => ?_) (fun c_79 => ?_)
        · have k2 := gx_if1 c_79
          have xe : (gx_sgn x L (gx_num x L (gx_num x L (gx_num x L (s.1 + 1, s.2) 1 (30)) 0 (K 0 0 - 1)) 0 (K 0 0 - 1)) 59).2 = (gx_num x L (gx_num x L (gx_num x L (s.1 + 1, s.2) 1 (30)) 0 (K 0 0 - 1)) 0 (K 0 0 - 1)).2 := gx_sgn_k k2
          have he : (gx_sgn x L (gx_num x L (gx_num x L (gx_num x L (s.1 + 1, s.2) 1 (30)) 0 (K 0 0 - 1)) 0 (K 0 0 - 1)) 59).2 = (gx_num x L (gx_num x L (gx_num x L (s.1 + 1, s.2) 1 (30)) 0 (K 0 0 - 1)) 0 (K 0 0 - 1)).2 := xe
          have hend : gx_rf w w_76 ∧ gx_ro (some (.int (nI 0))) w_76 (gx_sgn x L (gx_num x L (gx_num x L (gx_num x L (s.1 + 1, s.2) 1 (30)) 0 (K 0 0 - 1)) 0 (K 0 0 - 1)) 59) ∧ ((gx_sgn x L (gx_num x L (gx_num x L (gx_num x L (s.1 + 1, s.2) 1 (30)) 0 (K 0 0 - 1)) 0 (K 0 0 - 1)) 59).2.1 = 0 → gx_mc (w_76 163) (gx_up (gx_up (gx_up (gx_up K 0 3 (K 0 3 + 1)) 5 (K 0 3) (gx_nv x L (s.1 + 1, s.2))) 6 (K 0 3) (gx_nv x L (gx_num x L (s.1 + 1, s.2) 1 (30)))) 7 (K 0 3) (gx_nv x L (gx_num x L (gx_num x L (s.1 + 1, s.2) 1 (30)) 0 (K 0 0 - 1))))) := ⟨gx_rf_tr f0 g2, gx_ro_fail he k2 (no2 k2), fun q => absurd (show (gx_num x L (gx_num x L (gx_num x L (s.1 + 1, s.2) 1 (30)) 0 (K 0 0 - 1)) 0 (K 0 0 - 1)).2.1 = 0 by rw [← he]; exact q) k2⟩
          refine ga_iconst (nI 0) dX10_readsBoat_93 (by decide) ?_
          exact gd_zret dX10_readsBoat_94 (by decide) hend
        · have k2 := gx_if0 c_79
          refine ga_aload_n 0 dX10_readsBoat_82 rfl ?_
          refine gd_V0 km_X10_128 kv_X10_ends (c_X10_ends (s := (gx_num x L (gx_num x L (gx_num x L (s.1 + 1, s.2) 1 (30)) 0 (K 0 0 - 1)) 0 (K 0 0 - 1))) (gx_Rt_rf hR0 g2 (ok2 k2)) hx l2 k2) (sh161 _) rfl rfl (gt_rc0 (by decide)) (Nat.le_of_ble_eq_true rfl) dX10_readsBoat_83 (fun r_83 w_83 q_83 => ?_)
          obtain ⟨fE, ⟨rfl, okE, noE⟩, eE⟩ := q_83
          refine ga_if_eq 93 dX10_readsBoat_86 (by decide) (fun c_86 => ?_) (fun c_86 => ?_)
          · have kE := gx_if1 c_86
            have hend : gx_rf w w_83 ∧ gx_ro (some (.int (nI 0))) w_83 (gx_sgn x L (gx_num x L (gx_num x L (gx_num x L (s.1 + 1, s.2) 1 (30)) 0 (K 0 0 - 1)) 0 (K 0 0 - 1)) 59) ∧ ((gx_sgn x L (gx_num x L (gx_num x L (gx_num x L (s.1 + 1, s.2) 1 (30)) 0 (K 0 0 - 1)) 0 (K 0 0 - 1)) 59).2.1 = 0 → gx_mc (w_83 163) (gx_up (gx_up (gx_up (gx_up K 0 3 (K 0 3 + 1)) 5 (K 0 3) (gx_nv x L (s.1 + 1, s.2))) 6 (K 0 3) (gx_nv x L (gx_num x L (s.1 + 1, s.2) 1 (30)))) 7 (K 0 3) (gx_nv x L (gx_num x L (gx_num x L (s.1 + 1, s.2) 1 (30)) 0 (K 0 0 - 1))))) := ⟨gx_rf_tr f0 (gx_rf_tr g2 fE), gx_ro_fail rfl kE (noE kE), fun q => absurd q kE⟩
            refine ga_iconst (nI 0) dX10_readsBoat_93 (by decide) ?_
            exact gd_zret dX10_readsBoat_94 (by decide) hend
          · have kE := gx_if0 c_86
            have hend : gx_rf w w_83 ∧ gx_ro (some (.int (nI 1))) w_83 (gx_sgn x L (gx_num x L (gx_num x L (gx_num x L (s.1 + 1, s.2) 1 (30)) 0 (K 0 0 - 1)) 0 (K 0 0 - 1)) 59) ∧ ((gx_sgn x L (gx_num x L (gx_num x L (gx_num x L (s.1 + 1, s.2) 1 (30)) 0 (K 0 0 - 1)) 0 (K 0 0 - 1)) 59).2.1 = 0 → gx_mc (w_83 163) (gx_up (gx_up (gx_up (gx_up K 0 3 (K 0 3 + 1)) 5 (K 0 3) (gx_nv x L (s.1 + 1, s.2))) 6 (K 0 3) (gx_nv x L (gx_num x L (s.1 + 1, s.2) 1 (30)))) 7 (K 0 3) (gx_nv x L (gx_num x L (gx_num x L (s.1 + 1, s.2) 1 (30)) 0 (K 0 0 - 1))))) := ⟨gx_rf_tr f0 (gx_rf_tr g2 fE), gx_ro_ok kE (okE kE), fun _ => by rw [eE, (hv2 k2), (hv1 k1), (hv0 k0), e_27, nI_add]; exact gx_mc_bo hK ⟨kb.1.2, kb.2.1, kb.2.2.1, kb.2.2.2⟩ (by omega)⟩
            refine ga_iconst (nI 1) dX10_readsBoat_89 (by decide) ?_
            refine ga_goto 94 dX10_readsBoat_90 (by decide) ?_
            exact gd_zret dX10_readsBoat_94 (by decide) hend
  · have h6 : 4 ≤ K 0 3 := by have := (nI_eq (by have := kb.2; omega) (by decide)).mp c_9; omega
    have eT : gx_bo x L s K = (s.1, 3, s.1 + 1) := by unfold gx_bo; rw [if_pos h6, gx_fl_g hs]
    refine ga_aload_n 0 dX10_readsBoat_12 rfl ?_
    refine ga_iconst (nI 3) dX10_readsBoat_13 (by decide) ?_
    refine gd_V1 km_X10_120 kv_X10_fails c_X10_fails (sh161 _) rfl rfl (gt_rc0 (by decide)) (Nat.le_of_ble_eq_true rfl) dX10_readsBoat_14 (fun r_14 w_14 q_14 => ?_)
    obtain ⟨rfl, oF, eF⟩ := q_14
    exact gd_zret dX10_readsBoat_17 (by decide) ⟨⟨fun c h1 _ => oF c h1, fun q hq => by rw [eF, upd_ne _ _ (by omega)]⟩, gx_ro_fail (s := gx_bo x L s K) rfl (by simp [eT]) (by rw [eT]; exact ⟨by rw [eF, upd_eq], by rw [eF, upd_ne _ _ (by decide)]; exact h19.trans (gx_seat_s s.1).symm⟩), fun q => absurd q (by simp [eT])⟩
