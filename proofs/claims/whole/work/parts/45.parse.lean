/-! the text: a fault stays, and without one the coast is sound -/
section GTX
variable {x : Nat → Nat} {L : Nat} {s : gx_T} {K : gx_K}
theorem gx_fl_z {n p : Nat} (hn : n ≠ 0) : ¬ (gx_fl s n p).2.1 = 0 := by
  unfold gx_fl
  split
  · exact hn
  · rename_i q; exact q
theorem gx_fl_k {n p : Nat} (h : ¬ s.2.1 = 0) : gx_fl s n p = s := if_neg h
theorem gx_fl_g {n p : Nat} (h : s.2.1 = 0) : gx_fl s n p = (s.1, n, p + 1) := if_pos h
theorem gx_sgn_k {c : Nat} (h : ¬ s.2.1 = 0) : (gx_sgn x L s c).2 = s.2 := by
  unfold gx_sgn
  split
  · rfl
  · rw [gx_fl_k (s := (gx_skip x L s.1, s.2)) h]
theorem gx_num_k {lo hi : Nat} (h : ¬ s.2.1 = 0) : (gx_num x L s lo hi).2 = s.2 := by
  unfold gx_num
  split
  · rw [gx_fl_k (s := (gx_ne x L s, s.2)) h]
  · split
    · rw [gx_fl_k (s := (gx_ne x L s, s.2)) h]
    · rfl
theorem gx_sgn_0 {c : Nat} (h : (gx_sgn x L s c).2.1 = 0) : (gx_sgn x L s c).2 = s.2 ∧ s.2.1 = 0 ∧ gx_skip x L s.1 < L ∧ x (gx_skip x L s.1) = c := by
  unfold gx_sgn at h ⊢
  by_cases q : gx_skip x L s.1 < L ∧ x (gx_skip x L s.1) = c
  · rw [if_pos q] at h ⊢; exact ⟨rfl, h, q⟩
  · rw [if_neg q] at h; exact absurd h (gx_fl_z (by decide))
theorem gx_num_0 {lo hi : Nat} (h : (gx_num x L s lo hi).2.1 = 0) : (gx_num x L s lo hi).2 = s.2 ∧ s.2.1 = 0 ∧ lo ≤ gx_nv x L s ∧ gx_nv x L s ≤ hi ∧ ¬ gx_ne x L s = gx_skip x L s.1 ∧ ¬ 3 < gx_ne x L s - gx_skip x L s.1 := by
  unfold gx_num at h ⊢
  by_cases q : gx_ne x L s = gx_skip x L s.1
  · rw [if_pos q] at h; exact absurd h (gx_fl_z (by decide))
  · rw [if_neg q] at h ⊢
    by_cases q2 : 3 < gx_ne x L s - gx_skip x L s.1 ∨ gx_nv x L s < lo ∨ hi < gx_nv x L s
    · rw [if_pos q2] at h; exact absurd h (gx_fl_z (by decide))
    · rw [if_neg q2] at h ⊢
      exact ⟨rfl, h, by omega, by omega, q, by omega⟩
end GTX
def gx_Kok (K : gx_K) : Prop := gx_KW K ∧ 2 ≤ K 0 0
theorem gx_tw_0 {x : Nat → Nat} {L : Nat} {s : gx_T} {K : gx_K} (h : (gx_tw x L s K).2.1 = 0) : (gx_tw x L s K).2 = s.2 ∧ s.2.1 = 0 ∧ (gx_Kok K → gx_Kok (gx_twK x L s K)) := by
  by_cases q : 6 ≤ K 0 1
  · unfold gx_tw at h; rw [if_pos q] at h; exact absurd h (gx_fl_z (by decide))
  · have e : gx_tw x L s K = gx_sgn x L (gx_num x L (gx_num x L (gx_sgn x L s 116) 0 (K 0 0 - 1)) 1 20) 59 := if_neg q
    rw [e] at h ⊢
    have a9 := gx_sgn_0 h
    have b0 := gx_num_0 a9.2.1
    have b1 := gx_num_0 b0.2.1
    have a0 := gx_sgn_0 b1.2.1
    refine ⟨a9.1.trans (b0.1.trans (b1.1.trans a0.1)), a0.2.1, fun ⟨kw, h2⟩ => ?_⟩
    have eK : gx_twK x L s K = _ := if_neg q
    rw [eK]
    have n0 := b1.2.2
    have n1 := b0.2.2
    obtain ⟨k0, k1, k2, k3, k4, k5, k6, k7, k8, k9, k10, k11⟩ := kw
    have c0 : (gx_up (gx_up (gx_up K 0 1 (K 0 1 + 1)) 2 (K 0 1) (gx_nv x L (gx_sgn x L s 116))) 3 (K 0 1) (gx_nv x L (gx_num x L (gx_sgn x L s 116) 0 (K 0 0 - 1)))) 0 0 = K 0 0 := by simp [gx_up]
    have c1 : (gx_up (gx_up (gx_up K 0 1 (K 0 1 + 1)) 2 (K 0 1) (gx_nv x L (gx_sgn x L s 116))) 3 (K 0 1) (gx_nv x L (gx_num x L (gx_sgn x L s 116) 0 (K 0 0 - 1)))) 0 1 = K 0 1 + 1 := by simp [gx_up]
    have c2 : (gx_up (gx_up (gx_up K 0 1 (K 0 1 + 1)) 2 (K 0 1) (gx_nv x L (gx_sgn x L s 116))) 3 (K 0 1) (gx_nv x L (gx_num x L (gx_sgn x L s 116) 0 (K 0 0 - 1)))) 0 2 = K 0 2 := by simp [gx_up]
    have c3 : (gx_up (gx_up (gx_up K 0 1 (K 0 1 + 1)) 2 (K 0 1) (gx_nv x L (gx_sgn x L s 116))) 3 (K 0 1) (gx_nv x L (gx_num x L (gx_sgn x L s 116) 0 (K 0 0 - 1)))) 0 3 = K 0 3 := by simp [gx_up]
    have r1 : ∀ j, (gx_up (gx_up (gx_up K 0 1 (K 0 1 + 1)) 2 (K 0 1) (gx_nv x L (gx_sgn x L s 116))) 3 (K 0 1) (gx_nv x L (gx_num x L (gx_sgn x L s 116) 0 (K 0 0 - 1)))) 1 j = K 1 j := by intro j; simp [gx_up]
    have r2 : ∀ j, (gx_up (gx_up (gx_up K 0 1 (K 0 1 + 1)) 2 (K 0 1) (gx_nv x L (gx_sgn x L s 116))) 3 (K 0 1) (gx_nv x L (gx_num x L (gx_sgn x L s 116) 0 (K 0 0 - 1)))) 2 j = if j = K 0 1 then gx_nv x L (gx_sgn x L s 116) else K 2 j := by intro j; by_cases e : j = K 0 1 <;> simp [gx_up, e]
    have r3 : ∀ j, (gx_up (gx_up (gx_up K 0 1 (K 0 1 + 1)) 2 (K 0 1) (gx_nv x L (gx_sgn x L s 116))) 3 (K 0 1) (gx_nv x L (gx_num x L (gx_sgn x L s 116) 0 (K 0 0 - 1)))) 3 j = if j = K 0 1 then gx_nv x L (gx_num x L (gx_sgn x L s 116) 0 (K 0 0 - 1)) else K 3 j := by intro j; by_cases e : j = K 0 1 <;> simp [gx_up, e]
    have r4 : ∀ j, (gx_up (gx_up (gx_up K 0 1 (K 0 1 + 1)) 2 (K 0 1) (gx_nv x L (gx_sgn x L s 116))) 3 (K 0 1) (gx_nv x L (gx_num x L (gx_sgn x L s 116) 0 (K 0 0 - 1)))) 4 j = K 4 j := by intro j; simp [gx_up]
    have r5 : ∀ j, (gx_up (gx_up (gx_up K 0 1 (K 0 1 + 1)) 2 (K 0 1) (gx_nv x L (gx_sgn x L s 116))) 3 (K 0 1) (gx_nv x L (gx_num x L (gx_sgn x L s 116) 0 (K 0 0 - 1)))) 5 j = K 5 j := by intro j; simp [gx_up]
    have r6 : ∀ j, (gx_up (gx_up (gx_up K 0 1 (K 0 1 + 1)) 2 (K 0 1) (gx_nv x L (gx_sgn x L s 116))) 3 (K 0 1) (gx_nv x L (gx_num x L (gx_sgn x L s 116) 0 (K 0 0 - 1)))) 6 j = K 6 j := by intro j; simp [gx_up]
    have r7 : ∀ j, (gx_up (gx_up (gx_up K 0 1 (K 0 1 + 1)) 2 (K 0 1) (gx_nv x L (gx_sgn x L s 116))) 3 (K 0 1) (gx_nv x L (gx_num x L (gx_sgn x L s 116) 0 (K 0 0 - 1)))) 7 j = K 7 j := by intro j; simp [gx_up]
    unfold gx_Kok gx_KW
    simp only [c0, c1, c2, c3, r1, r2, r3, r4, r5, r6, r7]
    refine ⟨⟨by omega, by omega, by omega, by omega, ?_, ?_, ?_, ?_, ?_, ?_, ?_, by omega⟩, by omega⟩
    · exact fun j hj => k4 j hj
    · exact fun j hj => by
        by_cases e : j = K 0 1
        · rw [if_pos e]; exact (by have := n0.2.1; omega)
        · rw [if_neg e]; exact k5 j (by omega)
    · exact fun j hj => by
        by_cases e : j = K 0 1
        · rw [if_pos e]; exact ⟨n1.1, n1.2.1⟩
        · rw [if_neg e]; exact k6 j (by omega)
    · exact fun j hj => k7 j hj
    · exact fun j hj => k8 j hj
    · exact fun j hj => k9 j hj
    · exact fun j hj => k10 j hj
theorem gx_pl_0 {x : Nat → Nat} {L : Nat} {s : gx_T} {K : gx_K} (h : (gx_pl x L s K).2.1 = 0) : (gx_pl x L s K).2 = s.2 ∧ s.2.1 = 0 ∧ (gx_Kok K → gx_Kok (gx_plK x L s K)) := by
  by_cases q : 6 ≤ K 0 2
  · unfold gx_pl at h; rw [if_pos q] at h; exact absurd h (gx_fl_z (by decide))
  · have e : gx_pl x L s K = gx_sgn x L (gx_num x L (gx_sgn x L s 112) 1 9) 59 := if_neg q
    rw [e] at h ⊢
    have a9 := gx_sgn_0 h
    have b0 := gx_num_0 a9.2.1
    have a0 := gx_sgn_0 b0.2.1
    refine ⟨a9.1.trans (b0.1.trans a0.1), a0.2.1, fun ⟨kw, h2⟩ => ?_⟩
    have eK : gx_plK x L s K = _ := if_neg q
    rw [eK]
    have n0 := b0.2.2
    obtain ⟨k0, k1, k2, k3, k4, k5, k6, k7, k8, k9, k10, k11⟩ := kw
    have c0 : (gx_up (gx_up K 0 2 (K 0 2 + 1)) 4 (K 0 2) (gx_nv x L (gx_sgn x L s 112))) 0 0 = K 0 0 := by simp [gx_up]
    have c1 : (gx_up (gx_up K 0 2 (K 0 2 + 1)) 4 (K 0 2) (gx_nv x L (gx_sgn x L s 112))) 0 1 = K 0 1 := by simp [gx_up]
    have c2 : (gx_up (gx_up K 0 2 (K 0 2 + 1)) 4 (K 0 2) (gx_nv x L (gx_sgn x L s 112))) 0 2 = K 0 2 + 1 := by simp [gx_up]
    have c3 : (gx_up (gx_up K 0 2 (K 0 2 + 1)) 4 (K 0 2) (gx_nv x L (gx_sgn x L s 112))) 0 3 = K 0 3 := by simp [gx_up]
    have r1 : ∀ j, (gx_up (gx_up K 0 2 (K 0 2 + 1)) 4 (K 0 2) (gx_nv x L (gx_sgn x L s 112))) 1 j = K 1 j := by intro j; simp [gx_up]
    have r2 : ∀ j, (gx_up (gx_up K 0 2 (K 0 2 + 1)) 4 (K 0 2) (gx_nv x L (gx_sgn x L s 112))) 2 j = K 2 j := by intro j; simp [gx_up]
    have r3 : ∀ j, (gx_up (gx_up K 0 2 (K 0 2 + 1)) 4 (K 0 2) (gx_nv x L (gx_sgn x L s 112))) 3 j = K 3 j := by intro j; simp [gx_up]
    have r4 : ∀ j, (gx_up (gx_up K 0 2 (K 0 2 + 1)) 4 (K 0 2) (gx_nv x L (gx_sgn x L s 112))) 4 j = if j = K 0 2 then gx_nv x L (gx_sgn x L s 112) else K 4 j := by intro j; by_cases e : j = K 0 2 <;> simp [gx_up, e]
    have r5 : ∀ j, (gx_up (gx_up K 0 2 (K 0 2 + 1)) 4 (K 0 2) (gx_nv x L (gx_sgn x L s 112))) 5 j = K 5 j := by intro j; simp [gx_up]
    have r6 : ∀ j, (gx_up (gx_up K 0 2 (K 0 2 + 1)) 4 (K 0 2) (gx_nv x L (gx_sgn x L s 112))) 6 j = K 6 j := by intro j; simp [gx_up]
    have r7 : ∀ j, (gx_up (gx_up K 0 2 (K 0 2 + 1)) 4 (K 0 2) (gx_nv x L (gx_sgn x L s 112))) 7 j = K 7 j := by intro j; simp [gx_up]
    unfold gx_Kok gx_KW
    simp only [c0, c1, c2, c3, r1, r2, r3, r4, r5, r6, r7]
    refine ⟨⟨by omega, by omega, by omega, by omega, ?_, ?_, ?_, ?_, ?_, ?_, ?_, by omega⟩, by omega⟩
    · exact fun j hj => k4 j hj
    · exact fun j hj => k5 j hj
    · exact fun j hj => k6 j hj
    · exact fun j hj => by
        by_cases e : j = K 0 2
        · rw [if_pos e]; exact ⟨n0.1, n0.2.1⟩
        · rw [if_neg e]; exact k7 j (by omega)
    · exact fun j hj => k8 j hj
    · exact fun j hj => k9 j hj
    · exact fun j hj => k10 j hj
theorem gx_bo_0 {x : Nat → Nat} {L : Nat} {s : gx_T} {K : gx_K} (h : (gx_bo x L s K).2.1 = 0) : (gx_bo x L s K).2 = s.2 ∧ s.2.1 = 0 ∧ (gx_Kok K → gx_Kok (gx_boK x L s K)) := by
  by_cases q : 4 ≤ K 0 3
  · unfold gx_bo at h; rw [if_pos q] at h; exact absurd h (gx_fl_z (by decide))
  · have e : gx_bo x L s K = gx_sgn x L (gx_num x L (gx_num x L (gx_num x L (gx_sgn x L s 98) 1 30) 0 (K 0 0 - 1)) 0 (K 0 0 - 1)) 59 := if_neg q
    rw [e] at h ⊢
    have a9 := gx_sgn_0 h
    have b0 := gx_num_0 a9.2.1
    have b1 := gx_num_0 b0.2.1
    have b2 := gx_num_0 b1.2.1
    have a0 := gx_sgn_0 b2.2.1
    refine ⟨a9.1.trans (b0.1.trans (b1.1.trans (b2.1.trans a0.1))), a0.2.1, fun ⟨kw, h2⟩ => ?_⟩
    have eK : gx_boK x L s K = _ := if_neg q
    rw [eK]
    have n0 := b2.2.2
    have n1 := b1.2.2
    have n2 := b0.2.2
    obtain ⟨k0, k1, k2, k3, k4, k5, k6, k7, k8, k9, k10, k11⟩ := kw
    have c0 : (gx_up (gx_up (gx_up (gx_up K 0 3 (K 0 3 + 1)) 5 (K 0 3) (gx_nv x L (gx_sgn x L s 98))) 6 (K 0 3) (gx_nv x L (gx_num x L (gx_sgn x L s 98) 1 30))) 7 (K 0 3) (gx_nv x L (gx_num x L (gx_num x L (gx_sgn x L s 98) 1 30) 0 (K 0 0 - 1)))) 0 0 = K 0 0 := by simp [gx_up]
    have c1 : (gx_up (gx_up (gx_up (gx_up K 0 3 (K 0 3 + 1)) 5 (K 0 3) (gx_nv x L (gx_sgn x L s 98))) 6 (K 0 3) (gx_nv x L (gx_num x L (gx_sgn x L s 98) 1 30))) 7 (K 0 3) (gx_nv x L (gx_num x L (gx_num x L (gx_sgn x L s 98) 1 30) 0 (K 0 0 - 1)))) 0 1 = K 0 1 := by simp [gx_up]
    have c2 : (gx_up (gx_up (gx_up (gx_up K 0 3 (K 0 3 + 1)) 5 (K 0 3) (gx_nv x L (gx_sgn x L s 98))) 6 (K 0 3) (gx_nv x L (gx_num x L (gx_sgn x L s 98) 1 30))) 7 (K 0 3) (gx_nv x L (gx_num x L (gx_num x L (gx_sgn x L s 98) 1 30) 0 (K 0 0 - 1)))) 0 2 = K 0 2 := by simp [gx_up]
    have c3 : (gx_up (gx_up (gx_up (gx_up K 0 3 (K 0 3 + 1)) 5 (K 0 3) (gx_nv x L (gx_sgn x L s 98))) 6 (K 0 3) (gx_nv x L (gx_num x L (gx_sgn x L s 98) 1 30))) 7 (K 0 3) (gx_nv x L (gx_num x L (gx_num x L (gx_sgn x L s 98) 1 30) 0 (K 0 0 - 1)))) 0 3 = K 0 3 + 1 := by simp [gx_up]
    have r1 : ∀ j, (gx_up (gx_up (gx_up (gx_up K 0 3 (K 0 3 + 1)) 5 (K 0 3) (gx_nv x L (gx_sgn x L s 98))) 6 (K 0 3) (gx_nv x L (gx_num x L (gx_sgn x L s 98) 1 30))) 7 (K 0 3) (gx_nv x L (gx_num x L (gx_num x L (gx_sgn x L s 98) 1 30) 0 (K 0 0 - 1)))) 1 j = K 1 j := by intro j; simp [gx_up]
    have r2 : ∀ j, (gx_up (gx_up (gx_up (gx_up K 0 3 (K 0 3 + 1)) 5 (K 0 3) (gx_nv x L (gx_sgn x L s 98))) 6 (K 0 3) (gx_nv x L (gx_num x L (gx_sgn x L s 98) 1 30))) 7 (K 0 3) (gx_nv x L (gx_num x L (gx_num x L (gx_sgn x L s 98) 1 30) 0 (K 0 0 - 1)))) 2 j = K 2 j := by intro j; simp [gx_up]
    have r3 : ∀ j, (gx_up (gx_up (gx_up (gx_up K 0 3 (K 0 3 + 1)) 5 (K 0 3) (gx_nv x L (gx_sgn x L s 98))) 6 (K 0 3) (gx_nv x L (gx_num x L (gx_sgn x L s 98) 1 30))) 7 (K 0 3) (gx_nv x L (gx_num x L (gx_num x L (gx_sgn x L s 98) 1 30) 0 (K 0 0 - 1)))) 3 j = K 3 j := by intro j; simp [gx_up]
    have r4 : ∀ j, (gx_up (gx_up (gx_up (gx_up K 0 3 (K 0 3 + 1)) 5 (K 0 3) (gx_nv x L (gx_sgn x L s 98))) 6 (K 0 3) (gx_nv x L (gx_num x L (gx_sgn x L s 98) 1 30))) 7 (K 0 3) (gx_nv x L (gx_num x L (gx_num x L (gx_sgn x L s 98) 1 30) 0 (K 0 0 - 1)))) 4 j = K 4 j := by intro j; simp [gx_up]
    have r5 : ∀ j, (gx_up (gx_up (gx_up (gx_up K 0 3 (K 0 3 + 1)) 5 (K 0 3) (gx_nv x L (gx_sgn x L s 98))) 6 (K 0 3) (gx_nv x L (gx_num x L (gx_sgn x L s 98) 1 30))) 7 (K 0 3) (gx_nv x L (gx_num x L (gx_num x L (gx_sgn x L s 98) 1 30) 0 (K 0 0 - 1)))) 5 j = if j = K 0 3 then gx_nv x L (gx_sgn x L s 98) else K 5 j := by intro j; by_cases e : j = K 0 3 <;> simp [gx_up, e]
    have r6 : ∀ j, (gx_up (gx_up (gx_up (gx_up K 0 3 (K 0 3 + 1)) 5 (K 0 3) (gx_nv x L (gx_sgn x L s 98))) 6 (K 0 3) (gx_nv x L (gx_num x L (gx_sgn x L s 98) 1 30))) 7 (K 0 3) (gx_nv x L (gx_num x L (gx_num x L (gx_sgn x L s 98) 1 30) 0 (K 0 0 - 1)))) 6 j = if j = K 0 3 then gx_nv x L (gx_num x L (gx_sgn x L s 98) 1 30) else K 6 j := by intro j; by_cases e : j = K 0 3 <;> simp [gx_up, e]
    have r7 : ∀ j, (gx_up (gx_up (gx_up (gx_up K 0 3 (K 0 3 + 1)) 5 (K 0 3) (gx_nv x L (gx_sgn x L s 98))) 6 (K 0 3) (gx_nv x L (gx_num x L (gx_sgn x L s 98) 1 30))) 7 (K 0 3) (gx_nv x L (gx_num x L (gx_num x L (gx_sgn x L s 98) 1 30) 0 (K 0 0 - 1)))) 7 j = if j = K 0 3 then gx_nv x L (gx_num x L (gx_num x L (gx_sgn x L s 98) 1 30) 0 (K 0 0 - 1)) else K 7 j := by intro j; by_cases e : j = K 0 3 <;> simp [gx_up, e]
    unfold gx_Kok gx_KW
    simp only [c0, c1, c2, c3, r1, r2, r3, r4, r5, r6, r7]
    refine ⟨⟨by omega, by omega, by omega, by omega, ?_, ?_, ?_, ?_, ?_, ?_, ?_, by omega⟩, by omega⟩
    · exact fun j hj => k4 j hj
    · exact fun j hj => k5 j hj
    · exact fun j hj => k6 j hj
    · exact fun j hj => k7 j hj
    · exact fun j hj => by
        by_cases e : j = K 0 3
        · rw [if_pos e]; exact ⟨n0.1, n0.2.1⟩
        · rw [if_neg e]; exact k8 j (by omega)
    · exact fun j hj => by
        by_cases e : j = K 0 3
        · rw [if_pos e]; exact (by have := n1.2.1; omega)
        · rw [if_neg e]; exact k9 j (by omega)
    · exact fun j hj => by
        by_cases e : j = K 0 3
        · rw [if_pos e]; exact (by have := n2.2.1; omega)
        · rw [if_neg e]; exact k10 j (by omega)
theorem gx_cl_0 {x : Nat → Nat} {L : Nat} {s : gx_T} {K : gx_K} (h : (gx_cl x L s K).2.1 = 0) : (gx_cl x L s K).2 = s.2 ∧ s.2.1 = 0 ∧ (gx_Kok K → gx_Kok (gx_clK x L s K)) := by
  unfold gx_cl at h ⊢
  unfold gx_clK
  by_cases q1 : x s.1 = 116
  · rw [if_pos q1] at h ⊢; rw [if_pos q1]; exact gx_tw_0 h
  rw [if_neg q1] at h ⊢; rw [if_neg q1]
  by_cases q2 : x s.1 = 112
  · rw [if_pos q2] at h ⊢; rw [if_pos q2]; exact gx_pl_0 h
  rw [if_neg q2] at h ⊢; rw [if_neg q2]
  by_cases q3 : x s.1 = 98
  · rw [if_pos q3] at h ⊢; rw [if_pos q3]; exact gx_bo_0 h
  rw [if_neg q3] at h ⊢; rw [if_neg q3]
  by_cases q4 : x s.1 = 99
  · rw [if_pos q4] at h; exact absurd h (gx_fl_z (by decide))
  · rw [if_neg q4] at h; exact absurd h (gx_fl_z (by decide))
theorem gx_rl_0 {x : Nat → Nat} {L : Nat} : ∀ f (s : gx_T) (K : gx_K), (gx_rl x L f s K).1.2.1 = 0 → (gx_rl x L f s K).1.2 = s.2 ∧ s.2.1 = 0 ∧ (gx_Kok K → gx_Kok (gx_rl x L f s K).2)
  | 0, s, K, h => ⟨rfl, h, id⟩
  | f + 1, s, K, h => by
    unfold gx_rl at h ⊢
    by_cases q : s.2.1 = 0
    · rw [if_pos q] at h ⊢
      by_cases q2 : gx_skip x L s.1 < L
      · rw [if_pos q2] at h ⊢
        have ih := gx_rl_0 f _ _ h
        have h2 := gx_cl_0 ih.2.1
        exact ⟨ih.1.trans h2.1, q, fun k => ih.2.2 (h2.2.2 k)⟩
      · rw [if_neg q2] at h ⊢; exact ⟨rfl, q, id⟩
    · rw [if_neg q] at h; exact absurd h q
theorem gx_rl_RW {x : Nat → Nat} {L : Nat} : ∀ f (s : gx_T) (K : gx_K), gx_RW x L s → gx_RW x L (gx_rl x L f s K).1
  | 0, s, K, h => h
  | f + 1, s, K, h => by
    unfold gx_rl
    split
    · split
      · exact gx_rl_RW f _ _ (gx_RW_cl (gx_RW_sk h))
      · exact gx_RW_sk h
    · exact h
theorem gx_cs_0 {x : Nat → Nat} {L : Nat} : ∀ k (s : gx_T) (K : gx_K), k ≤ 9 → K 0 0 = 10 - k → (gx_cs x L k s K).1.2.1 = 0 → (gx_cs x L k s K).1.2 = s.2 ∧ s.2.1 = 0 ∧ ((∀ j, j < K 0 0 → K 1 j ≤ 60) → ∀ j, j < (gx_cs x L k s K).2 0 0 → (gx_cs x L k s K).2 1 j ≤ 60)
  | 0, s, K, _, _, h => ⟨rfl, h, id⟩
  | k + 1, s, K, hk, h0, h => by
    unfold gx_cs at h ⊢
    by_cases q : gx_skip x L s.1 < L ∧ x (gx_skip x L s.1) = 44
    · rw [if_pos q] at h ⊢
      have ih := gx_cs_0 k _ _ (by omega) (by rw [gx_up_eq]; omega) h
      have b := gx_num_0 ih.2.1
      have a := gx_sgn_0 b.2.1
      refine ⟨ih.1.trans (b.1.trans a.1), a.2.1, fun h6 => ih.2.2 (fun j hj => ?_)⟩
      rw [gx_up_eq] at hj
      rw [gx_up_row (by decide)]
      by_cases e : j = 10 - (k + 1)
      · rw [e, gx_up_eq]; exact b.2.2.2.1
      · rw [gx_up_col e]; exact h6 j (by omega)
    · rw [if_neg q] at h ⊢; exact ⟨rfl, h, id⟩
theorem gx_ce_0 {x : Nat → Nat} {L : Nat} {s : gx_T} (h : (gx_ce x L s (fun _ _ => 0)).2.1 = 0) (hw : gx_RW x L s) : (gx_ce x L s (fun _ _ => 0)).2 = s.2 ∧ s.2.1 = 0 ∧ gx_Kok (gx_ce0 x L s (fun _ _ => 0)).2 := by
  unfold gx_ce at h ⊢
  have a := gx_sgn_0 h
  by_cases q : (gx_ce0 x L s (fun _ _ => 0)).2 0 0 < 2
  · rw [if_pos q] at a; exact absurd a.2.1 (gx_fl_z (by decide))
  · rw [if_neg q] at a ⊢
    have hcs := gx_cs_0 9 (gx_num x L (gx_sgn x L s 99) 0 60) (gx_up (gx_up (fun _ _ => 0) 1 0 (gx_nv x L (gx_sgn x L s 99))) 0 0 1) (by decide) (gx_up_eq _ _ _ _) a.2.1
    have b := gx_num_0 hcs.2.1
    have a0 := gx_sgn_0 b.2.1
    have hB := gx_KB_ce hw
    have hc : ∀ i, ¬ i = 0 → (gx_ce0 x L s (fun _ _ => 0)).2 0 i = 0 := fun i hi => by
      unfold gx_ce0
      rw [gx_cs_cnt 9 _ _ i hi, gx_up_col hi, gx_up_row (by decide)]
    have c1 := hc 1 (by decide)
    have c2 := hc 2 (by decide)
    have c3 := hc 3 (by decide)
    refine ⟨a.1.trans (hcs.1.trans (b.1.trans a0.1)), a0.2.1, ⟨hB.1.2, hB.2.1, hB.2.2.1, hB.2.2.2, hcs.2.2 (fun j hj => ?_), fun j hj => by omega, fun j hj => by omega, fun j hj => by omega, fun j hj => by omega, fun j hj => by omega, fun j hj => by omega, by omega⟩, by omega⟩
    rw [gx_up_eq] at hj
    obtain rfl : j = 0 := by omega
    rw [gx_up_row (by decide), gx_up_eq]
    exact b.2.2.2.1
theorem gx_ri_0 {x : Nat → Nat} {L : Nat} (hL : L ≤ 240) (hx : ∀ j, j < L → x j ≤ 255) (h : (gx_ri x L).1.2.1 = 0) : (gx_ri x L).1.2 = (0, 0) ∧ gx_KW (gx_ri x L).2 := by
  have hw : gx_RW x L (gx_skip x L 0, 0, 0) := ⟨hL, (gx_skip_b (L - 0) 0 (by omega)).2, Nat.zero_le _, Nat.zero_le _, hx⟩
  unfold gx_ri at h ⊢
  by_cases q : gx_skip x L 0 < L
  · rw [if_pos q] at h ⊢
    have h1 := gx_rl_0 240 _ _ h
    have h2 := gx_ce_0 h1.2.1 hw
    exact ⟨h1.1.trans h2.1, (h1.2.2 h2.2.2).1⟩
  · rw [if_neg q]
    exact ⟨rfl, Nat.zero_le _, Nat.zero_le _, Nat.zero_le _, Nat.zero_le _, fun j hj => absurd hj (Nat.not_lt_zero j), fun j hj => absurd hj (Nat.not_lt_zero j), fun j hj => absurd hj (Nat.not_lt_zero j), fun j hj => absurd hj (Nat.not_lt_zero j), fun j hj => absurd hj (Nat.not_lt_zero j), fun j hj => absurd hj (Nat.not_lt_zero j), fun j hj => absurd hj (Nat.not_lt_zero j), Nat.zero_ne_one⟩
theorem gx_ri_RW {x : Nat → Nat} {L : Nat} (hL : L ≤ 240) (hx : ∀ j, j < L → x j ≤ 255) : gx_RW x L (gx_ri x L).1 := by
  have hw : gx_RW x L (gx_skip x L 0, 0, 0) := ⟨hL, (gx_skip_b (L - 0) 0 (by omega)).2, Nat.zero_le _, Nat.zero_le _, hx⟩
  unfold gx_ri
  split
  · exact gx_rl_RW _ _ _ (gx_RW_ce hw)
  · exact hw
