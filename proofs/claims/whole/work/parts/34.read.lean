/-- the text's letters x, L of them; behind blanks, behind figures -/
def gx_sk (x : Nat → Nat) (L : Nat) : Nat → Nat
  | 0 => L
  | k + 1 => if x (L - (k + 1)) = 32 then gx_sk x L k else L - (k + 1)
def gx_skip (x : Nat → Nat) (L a : Nat) : Nat := gx_sk x L (L - a)
theorem gx_skip_lt {x : Nat → Nat} {L a : Nat} (h : a < L) : gx_skip x L a = if x a = 32 then gx_skip x L (a + 1) else a := by
  unfold gx_skip
  obtain ⟨k, hk⟩ : ∃ k, L - a = k + 1 := ⟨L - a - 1, by omega⟩
  rw [hk, show L - (a + 1) = k by omega]
  show (if x (L - (k + 1)) = 32 then gx_sk x L k else L - (k + 1)) = _
  rw [show L - (k + 1) = a by omega]
theorem gx_skip_L {x : Nat → Nat} {L : Nat} : gx_skip x L L = L := by unfold gx_skip; rw [Nat.sub_self]; rfl
theorem gx_skip_b {x : Nat → Nat} {L : Nat} : ∀ k a, a + k = L → a ≤ gx_skip x L a ∧ gx_skip x L a ≤ L
  | 0, a, h => by rw [show a = L by omega, gx_skip_L]; omega
  | k + 1, a, h => by
    rw [gx_skip_lt (by omega)]
    have ih := gx_skip_b (x := x) (L := L) k (a + 1) (by omega)
    split <;> omega
theorem gx_skip_n {x : Nat → Nat} {L : Nat} : ∀ k a, a + k = L → gx_skip x L a < L → ¬ x (gx_skip x L a) = 32
  | 0, a, h, q => by rw [show a = L by omega, gx_skip_L] at q; omega
  | k + 1, a, h, q => by
    rw [gx_skip_lt (by omega)] at q ⊢
    by_cases e : x a = 32
    · rw [if_pos e] at q ⊢; exact gx_skip_n k (a + 1) (by omega) q
    · rw [if_neg e]; exact e
theorem gx_skip_i {x : Nat → Nat} {L a : Nat} (h : a ≤ L) : gx_skip x L (gx_skip x L a) = gx_skip x L a := by
  have hb := gx_skip_b (x := x) (L := L) (L - a) a (by omega)
  rcases Nat.lt_or_ge (gx_skip x L a) L with q | q
  · rw [gx_skip_lt (a := gx_skip x L a) q, if_neg (gx_skip_n (L - a) a (by omega) q)]
  · rw [show gx_skip x L a = L by omega, gx_skip_L]
def gx_fig (v : Nat) : Prop := 48 ≤ v ∧ v ≤ 57
def gx_dg (x : Nat → Nat) (L : Nat) : Nat → Nat
  | 0 => L
  | k + 1 => if 48 ≤ x (L - (k + 1)) ∧ x (L - (k + 1)) ≤ 57 then gx_dg x L k else L - (k + 1)
def gx_digs (x : Nat → Nat) (L a : Nat) : Nat := gx_dg x L (L - a)
theorem gx_digs_lt {x : Nat → Nat} {L a : Nat} (h : a < L) : gx_digs x L a = if 48 ≤ x a ∧ x a ≤ 57 then gx_digs x L (a + 1) else a := by
  unfold gx_digs
  obtain ⟨k, hk⟩ : ∃ k, L - a = k + 1 := ⟨L - a - 1, by omega⟩
  rw [hk, show L - (a + 1) = k by omega]
  show (if 48 ≤ x (L - (k + 1)) ∧ x (L - (k + 1)) ≤ 57 then gx_dg x L k else L - (k + 1)) = _
  rw [show L - (k + 1) = a by omega]
theorem gx_digs_L {x : Nat → Nat} {L : Nat} : gx_digs x L L = L := by unfold gx_digs; rw [Nat.sub_self]; rfl
theorem gx_digs_b {x : Nat → Nat} {L : Nat} : ∀ k a, a + k = L → a ≤ gx_digs x L a ∧ gx_digs x L a ≤ L
  | 0, a, h => by rw [show a = L by omega, gx_digs_L]; omega
  | k + 1, a, h => by
    rw [gx_digs_lt (by omega)]
    have ih := gx_digs_b (x := x) (L := L) k (a + 1) (by omega)
    split <;> omega
/-- the number of i figures from f on: the first three of them -/
def gx_vl (x : Nat → Nat) (f : Nat) : Nat → Nat
  | 0 => 0
  | i + 1 => if i < 3 then gx_vl x f i * 10 + x (f + i) - 48 else gx_vl x f i
theorem gx_vl_b {x : Nat → Nat} {f : Nat} : ∀ i, (∀ j, j < i → x (f + j) ≤ 57) → gx_vl x f i ≤ 999 ∧ (i ≤ 2 → gx_vl x f i ≤ 99) ∧ (i ≤ 1 → gx_vl x f i ≤ 9) ∧ (i = 0 → gx_vl x f i = 0)
  | 0, _ => ⟨Nat.zero_le _, fun _ => Nat.zero_le _, fun _ => Nat.zero_le _, fun _ => rfl⟩
  | i + 1, h => by
    have ih := gx_vl_b (x := x) (f := f) i (fun j hj => h j (by omega))
    have hx := h i (by omega)
    show (if i < 3 then gx_vl x f i * 10 + x (f + i) - 48 else gx_vl x f i) ≤ 999 ∧ (i + 1 ≤ 2 → (if i < 3 then gx_vl x f i * 10 + x (f + i) - 48 else gx_vl x f i) ≤ 99) ∧ (i + 1 ≤ 1 → (if i < 3 then gx_vl x f i * 10 + x (f + i) - 48 else gx_vl x f i) ≤ 9) ∧ (i + 1 = 0 → _)
    by_cases q : i < 3
    · rw [if_pos q]
      refine ⟨?_, fun h2 => ?_, fun h2 => ?_, fun h2 => by omega⟩
      · have := ih.2.1 (by omega); omega
      · have := ih.2.2.1 (by omega); omega
      · have := ih.2.2.2 (by omega); omega
    · rw [if_neg q]
      exact ⟨ih.1, fun h2 => by omega, fun h2 => by omega, fun h2 => by omega⟩
/-- where the reader is: at, the fault's number (0: none), its place + 1 -/
abbrev gx_T : Type := Nat × Nat × Nat
def gx_fl (s : gx_T) (n p : Nat) : gx_T := if s.2.1 = 0 then (s.1, n, p + 1) else s
def gx_sgn (x : Nat → Nat) (L : Nat) (s : gx_T) (c : Nat) : gx_T := if gx_skip x L s.1 < L ∧ x (gx_skip x L s.1) = c then (gx_skip x L s.1 + 1, s.2) else gx_fl (gx_skip x L s.1, s.2) 1 (gx_skip x L s.1)
/-- the end of the number that is next, its value -/
def gx_ne (x : Nat → Nat) (L : Nat) (s : gx_T) : Nat := gx_digs x L (gx_skip x L s.1)
def gx_nv (x : Nat → Nat) (L : Nat) (s : gx_T) : Nat := gx_vl x (gx_skip x L s.1) (gx_ne x L s - gx_skip x L s.1)
def gx_num (x : Nat → Nat) (L : Nat) (s : gx_T) (lo hi : Nat) : gx_T := if gx_ne x L s = gx_skip x L s.1 then gx_fl (gx_ne x L s, s.2) 1 (gx_skip x L s.1) else if 3 < gx_ne x L s - gx_skip x L s.1 ∨ gx_nv x L s < lo ∨ hi < gx_nv x L s then gx_fl (gx_ne x L s, s.2) 2 (gx_skip x L s.1) else (gx_ne x L s, s.2)
/-- the reader's memory -/
def gx_Rd (w : gt_W) (x : Nat → Nat) (L : Nat) (s : gx_T) : Prop := (w 2 1 = nI L ∧ w 2 2 = nI s.1 ∧ w 2 3 = nI s.2.1 ∧ w 2 4 = gx_seat s.2.2) ∧ ∀ j, j < L → w 3 j = nI (x j)
def gx_RW (x : Nat → Nat) (L : Nat) (s : gx_T) : Prop := L ≤ 240 ∧ s.1 ≤ L ∧ s.2.1 ≤ 3 ∧ s.2.2 ≤ 241 ∧ ∀ j, j < L → x j ≤ 255
theorem gx_RW_fl {x : Nat → Nat} {L : Nat} {s : gx_T} {n p : Nat} (h : gx_RW x L s) (hn : n ≤ 3) (hp : p ≤ 240) : gx_RW x L (gx_fl s n p) := by
  unfold gx_fl
  split
  · exact ⟨h.1, h.2.1, hn, by show p + 1 ≤ 241; omega, h.2.2.2.2⟩
  · exact h
theorem gx_RW_sk {x : Nat → Nat} {L : Nat} {s : gx_T} (h : gx_RW x L s) : gx_RW x L (gx_skip x L s.1, s.2) := ⟨h.1, (gx_skip_b (L - s.1) s.1 (by have := h.2.1; omega)).2, h.2.2⟩
theorem gx_RW_sgn {x : Nat → Nat} {L : Nat} {s : gx_T} (h : gx_RW x L s) (c : Nat) : gx_RW x L (gx_sgn x L s c) := by
  have h1 := gx_RW_sk h
  unfold gx_sgn
  split
  · rename_i q; exact ⟨h.1, by show gx_skip x L s.1 + 1 ≤ L; omega, h.2.2⟩
  · exact gx_RW_fl h1 (by decide) (by have := h1.2.1; have := h.1; show gx_skip x L s.1 ≤ 240; exact Nat.le_trans h1.2.1 h.1)
theorem gx_ne_b {x : Nat → Nat} {L : Nat} {s : gx_T} (h : gx_RW x L s) : gx_skip x L s.1 ≤ gx_ne x L s ∧ gx_ne x L s ≤ L := by
  have h1 := (gx_RW_sk h).2.1
  exact gx_digs_b (x := x) (L - gx_skip x L s.1) (gx_skip x L s.1) (by have h2 : gx_skip x L s.1 ≤ L := h1; omega)
theorem gx_RW_num {x : Nat → Nat} {L : Nat} {s : gx_T} (h : gx_RW x L s) (lo hi : Nat) : gx_RW x L (gx_num x L s lo hi) := by
  have h1 := gx_ne_b h
  have h2 : gx_RW x L (gx_ne x L s, s.2) := ⟨h.1, h1.2, h.2.2⟩
  have h3 := h.1
  unfold gx_num
  split
  · exact gx_RW_fl h2 (by decide) (by omega)
  · split
    · exact gx_RW_fl h2 (by decide) (by omega)
    · exact h2
theorem gx_Rd_at {w w' : gt_W} {x : Nat → Nat} {L a b : Nat} {s : Nat × Nat} (o : ∀ b, b ≠ 2 → w' b = w b) (e : w' 2 = upd (w 2) 2 (nI a)) (h : gx_Rd w x L (b, s)) : gx_Rd w' x L (a, s) := by
  refine ⟨⟨?_, ?_, ?_, ?_⟩, fun j hj => by rw [o 3 (by decide)]; exact h.2 j hj⟩
  · rw [e, upd_ne _ _ (by decide)]; exact h.1.1
  · rw [e, upd_eq]
  · rw [e, upd_ne _ _ (by decide)]; exact h.1.2.2.1
  · rw [e, upd_ne _ _ (by decide)]; exact h.1.2.2.2
theorem gx_figs {x : Nat → Nat} {L : Nat} : ∀ k a, a + k = L → ∀ j, a ≤ j → j < gx_digs x L a → 48 ≤ x j ∧ x j ≤ 57
  | 0, a, h, j, h1, h2 => by rw [show a = L by omega, gx_digs_L] at h2; omega
  | k + 1, a, h, j, h1, h2 => by
    rw [gx_digs_lt (by omega)] at h2
    by_cases q : 48 ≤ x a ∧ x a ≤ 57
    · rw [if_pos q] at h2
      by_cases e : j = a
      · rw [e]; exact q
      · exact gx_figs k (a + 1) (by omega) j (by omega) h2
    · rw [if_neg q] at h2; omega
theorem gx_nv_le {x : Nat → Nat} {L : Nat} {s : gx_T} (h : gx_RW x L s) : gx_nv x L s ≤ 999 := by
  have h1 := (gx_RW_sk h).2.1
  have h1 : gx_skip x L s.1 ≤ L := h1
  have h2 := gx_ne_b h
  exact (gx_vl_b _ (fun j hj => (gx_figs (L := L) (L - gx_skip x L s.1) (gx_skip x L s.1) (by omega) (gx_skip x L s.1 + j) (by omega) (by show _ < gx_ne x L s; omega)).2)).1
set_option maxRecDepth 100000 in
set_option maxHeartbeats 4000000 in
theorem c_X6_moreComes {l : Launch} {G : gt_G} {n : Nat} {w : gt_W} {x : Nat → Nat} {L : Nat} {s : gx_T} (hR : gx_Rd w x L s) (rw9 : gx_RW x L s) : gt_D l G yX6_moreComes cX6_moreComes 1 (some .boolean) 1 n [.ref 2] w (fun r w' => r = some (.int (if gx_skip x L s.1 < L then nI 1 else nI 0)) ∧ (∀ a, a ≠ 2 → w' a = w a) ∧ gx_Rd w' x L (gx_skip x L s.1, s.2)) := by
  refine gt_D_of (own := RX6) (nm := "moreComes") rfl rfl (by decide +kernel) (Nat.le_of_ble_eq_true rfl) ?_
  have hL := rw9.1
  have loop : ∀ k a, a + k = L → gx_skip x L s.1 = gx_skip x L a → ∀ w1 : gt_W, (∀ b, b ≠ 2 → w1 b = w b) → gx_Rd w1 x L (a, s.2) → gt_A l G RX6 "moreComes" cX6_moreComes 1 (some .boolean) (gt_rm 1 0 0) (gt_ZD G n (fun r w' => r = some (.int (if gx_skip x L s.1 < L then nI 1 else nI 0)) ∧ (∀ a, a ≠ 2 → w' a = w a) ∧ gx_Rd w' x L (gx_skip x L s.1, s.2))) (n, 0, 0) 0 [(0, .ref 2)] [] (gt_enc w1) := by
    intro k
    induction k with
    | zero =>
      intro a ha hs w1 hF hR
      have ea : a = L := by omega
      refine ga_aload_n 0 dX6_moreComes_0 rfl ?_
      refine ga_get kf_X6_23 (sh2 _) (gv hR.1.2.1) dX6_moreComes_1 ?_
      refine ga_aload_n 0 dX6_moreComes_4 rfl ?_
      refine ga_get kf_X6_19 (sh2 _) (gv hR.1.1) dX6_moreComes_5 ?_
      refine ga_icmp_ge 38 dX6_moreComes_8 (by decide) (fun c_8 => ?_) (fun c_8 => absurd (nI_le (by show L ≤ a; omega) (by show a < _; omega)) c_8)
      refine ga_aload_n 0 dX6_moreComes_38 rfl ?_
      refine ga_get kf_X6_23 (sh2 _) (gv hR.1.2.1) dX6_moreComes_39 ?_
      refine ga_aload_n 0 dX6_moreComes_42 rfl ?_
      refine ga_get kf_X6_19 (sh2 _) (gv hR.1.1) dX6_moreComes_43 ?_
      refine ga_icmp_ge 53 dX6_moreComes_46 (by decide) (fun c_46 => ?_) (fun c_46 => absurd (nI_le (by show L ≤ a; omega) (by show a < _; omega)) c_46)
      refine ga_iconst (nI 0) dX6_moreComes_53 (by decide) ?_
      exact gd_zret dX6_moreComes_54 (by decide) ⟨gv (by rw [hs, ea, gx_skip_L, if_neg (Nat.lt_irrefl _)]), hF, by rw [hs, ea, gx_skip_L]; rw [ea] at hR; exact hR⟩
    | succ k ih =>
      intro a ha hs w1 hF hR
      refine ga_aload_n 0 dX6_moreComes_0 rfl ?_
      refine ga_get kf_X6_23 (sh2 _) (gv hR.1.2.1) dX6_moreComes_1 ?_
      refine ga_aload_n 0 dX6_moreComes_4 rfl ?_
      refine ga_get kf_X6_19 (sh2 _) (gv hR.1.1) dX6_moreComes_5 ?_
      refine ga_icmp_ge 38 dX6_moreComes_8 (by decide) (fun c_8 => absurd c_8 (nI_ge (by show a < L; omega) (by omega))) (fun c_8 => ?_)
      refine ga_aload_n 0 dX6_moreComes_11 rfl ?_
      refine ga_get kf_X6_9 (sh2 _) rfl dX6_moreComes_12 ?_
      refine ga_aload_n 0 dX6_moreComes_15 rfl ?_
      refine ga_get kf_X6_23 (sh2 _) (gv hR.1.2.1) dX6_moreComes_16 ?_
      refine ge_ialdE (sh3) (gt_ixn (by show a < 240; omega)) (v := nI (x a)) (hR.2 a (by omega)) dX6_moreComes_19 ?_
      refine ga_bipush (nI 32) dX6_moreComes_20 (by decide) ?_
      refine ga_icmp_ne 38 dX6_moreComes_22 (by decide) (fun c_22 => ?_) (fun c_22 => ?_)
      · have hn : ¬ x a = 32 := fun q => c_22 (by rw [q])
        refine ga_aload_n 0 dX6_moreComes_38 rfl ?_
        refine ga_get kf_X6_23 (sh2 _) (gv hR.1.2.1) dX6_moreComes_39 ?_
        refine ga_aload_n 0 dX6_moreComes_42 rfl ?_
        refine ga_get kf_X6_19 (sh2 _) (gv hR.1.1) dX6_moreComes_43 ?_
        refine ga_icmp_ge 53 dX6_moreComes_46 (by decide) (fun c_46 => absurd c_46 (nI_ge (by show a < L; omega) (by omega))) (fun c_46 => ?_)
        refine ga_iconst (nI 1) dX6_moreComes_49 (by decide) ?_
        refine ga_goto 54 dX6_moreComes_50 (by decide) ?_
        exact gd_zret dX6_moreComes_54 (by decide) ⟨gv (by rw [hs, gx_skip_lt (by omega), if_neg hn, if_pos (by omega)]), hF, by rw [hs, gx_skip_lt (by omega), if_neg hn]; exact hR⟩
      · have hy : x a = 32 := (nI_eq (by have := rw9.2.2.2.2 a (by omega); omega) (by decide)).mp c_22
        refine ga_aload_n 0 dX6_moreComes_25 rfl ?_
        refine ga_dup dX6_moreComes_26 rfl ?_
        refine ga_get kf_X6_23 (sh2 _) (gv hR.1.2.1) dX6_moreComes_27 ?_
        refine ga_iconst (nI 1) dX6_moreComes_30 (by decide) ?_
        refine ga_iadd dX6_moreComes_31 ?_
        refine ga_top (nI (a + 1)) (nI_add a 1) ?_
        refine gw_put 2 kp_X6_23 (sh2 _) (sh2 _) rfl rfl (Nat.le_of_ble_eq_true rfl) dX6_moreComes_32 (fun w_32 o_32 e_32 => ?_)
        refine ga_goto 0 dX6_moreComes_35 (by decide) ?_
        exact ih (a + 1) (by omega) (by rw [hs, gx_skip_lt (by omega), if_pos hy]) _ (fun b hb => by rw [o_32 b hb]; exact hF b hb) (gx_Rd_at o_32 e_32 hR)
  exact loop (L - s.1) s.1 (by have := rw9.2.1; omega) rfl _ (fun _ _ => rfl) hR
set_option maxRecDepth 100000 in
set_option maxHeartbeats 4000000 in
theorem c_X6_nextIs {l : Launch} {G : gt_G} {n : Nat} {w : gt_W} {x : Nat → Nat} {L : Nat} {s : gx_T} (hR : gx_Rd w x L s) (rw9 : gx_RW x L s) {c9 : Nat} (hc9 : c9 ≤ 255) : gt_D l G yX6_nextIs cX6_nextIs 2 (some .boolean) 2 n [.ref 2, .int (nI c9)] w (fun r w' => r = some (.int (if (gx_skip x L s.1 < L ∧ x (gx_skip x L s.1) = c9) then nI 1 else nI 0)) ∧ (∀ a, a ≠ 2 → w' a = w a) ∧ gx_Rd w' x L (gx_skip x L s.1, s.2)) := by
  refine gt_D_of (own := RX6) (nm := "nextIs") rfl rfl (by decide +kernel) (Nat.le_of_ble_eq_true rfl) ?_
  show gt_A _ _ _ _ _ _ _ _ _ _ _ [(0, .ref 2), (1, .int (nI c9))] _ _
  refine ga_aload_n 0 dX6_nextIs_0 rfl ?_
  refine gd_V0 km_X6_34 kv_X6_moreComes (c_X6_moreComes hR rw9) (sh2 _) rfl rfl (gt_rc0 (by decide)) (Nat.le_of_ble_eq_true rfl) dX6_nextIs_1 (fun r_1 w_1 q_1 => ?_)
  obtain ⟨rfl, o0, hR⟩ := q_1
  have hRW := gx_RW_sk rw9
  have hsk := hRW.2.1
  have hL := rw9.1
  have hsk : gx_skip x L s.1 ≤ L := hsk
  refine ga_if_eq 24 dX6_nextIs_4 (by decide) (fun c_4 => ?_) (fun c_4 => ?_)
  · have hnl : ¬ gx_skip x L s.1 < L := fun q => absurd c_4 (by rw [if_pos q]; decide)
    refine ga_iconst (nI 0) dX6_nextIs_24 (by decide) ?_
    first
    | exact gd_zret dX6_nextIs_25 (by decide) ⟨gv (if_neg (fun q => hnl q.1)).symm, o0, hR⟩
    | exact gd_zret dX6_nextIs_25 (by decide) ⟨gv (if_neg (fun q => c_17 (by rw [q.2]))).symm, o0, hR⟩
    | exact gd_zret dX6_nextIs_25 (by decide) ⟨gv (if_pos ⟨hlt, (nI_eq (by have := rw9.2.2.2.2 _ hlt; omega) (by omega)).mp c_17⟩).symm, o0, hR⟩
  · have hlt : gx_skip x L s.1 < L := Decidable.byContradiction fun q => c_4 (by rw [if_neg q]; decide)
    refine ga_aload_n 0 dX6_nextIs_7 rfl ?_
    refine ga_get kf_X6_9 (sh2 _) rfl dX6_nextIs_8 ?_
    refine ga_aload_n 0 dX6_nextIs_11 rfl ?_
    refine ga_get kf_X6_23 (sh2 _) (gv hR.1.2.1) dX6_nextIs_12 ?_
    refine ge_ialdE (sh3) (gt_ixn (by show gx_skip x L s.1 < 240; omega)) (v := nI (x (gx_skip x L s.1))) (hR.2 _ hlt) dX6_nextIs_15 ?_
    refine ga_iload_n 1 dX6_nextIs_16 rfl ?_
    refine ga_icmp_ne 24 dX6_nextIs_17 (by decide) (fun c_17 => ?_) (fun c_17 => ?_)
    · refine ga_iconst (nI 0) dX6_nextIs_24 (by decide) ?_
      first
      | exact gd_zret dX6_nextIs_25 (by decide) ⟨gv (if_neg (fun q => hnl q.1)).symm, o0, hR⟩
      | exact gd_zret dX6_nextIs_25 (by decide) ⟨gv (if_neg (fun q => c_17 (by rw [q.2]))).symm, o0, hR⟩
      | exact gd_zret dX6_nextIs_25 (by decide) ⟨gv (if_pos ⟨hlt, (nI_eq (by have := rw9.2.2.2.2 _ hlt; omega) (by omega)).mp c_17⟩).symm, o0, hR⟩
    · refine ga_iconst (nI 1) dX6_nextIs_20 (by decide) ?_
      refine ga_goto 25 dX6_nextIs_21 (by decide) ?_
      first
      | exact gd_zret dX6_nextIs_25 (by decide) ⟨gv (if_neg (fun q => hnl q.1)).symm, o0, hR⟩
      | exact gd_zret dX6_nextIs_25 (by decide) ⟨gv (if_neg (fun q => c_17 (by rw [q.2]))).symm, o0, hR⟩
      | exact gd_zret dX6_nextIs_25 (by decide) ⟨gv (if_pos ⟨hlt, (nI_eq (by have := rw9.2.2.2.2 _ hlt; omega) (by omega)).mp c_17⟩).symm, o0, hR⟩
set_option maxRecDepth 100000 in
set_option maxHeartbeats 4000000 in
theorem c_X6_fail {l : Launch} {G : gt_G} {n : Nat} {w : gt_W} {x : Nat → Nat} {L : Nat} {s : gx_T} (hR : gx_Rd w x L s) (rw9 : gx_RW x L s) {n9 p9 : Nat} : gt_D l G yX6_fail cX6_fail 3 none 1 n [.ref 2, .int (nI n9), .int (nI p9)] w (fun r w' => r = none ∧ (∀ a, a ≠ 2 → w' a = w a) ∧ gx_Rd w' x L (gx_fl s n9 p9)) := by
  refine gt_D_of (own := RX6) (nm := "fail") rfl rfl (by decide +kernel) (Nat.le_of_ble_eq_true rfl) ?_
  show gt_A _ _ _ _ _ _ _ _ _ _ _ [(0, .ref 2), (1, .int (nI n9)), (2, .int (nI p9))] _ _
  refine ga_aload_n 0 dX6_fail_0 rfl ?_
  refine ga_get kf_X6_26 (sh2 _) (gv hR.1.2.2.1) dX6_fail_1 ?_
  refine ga_if_ne 17 dX6_fail_4 (by decide) (fun c_4 => ?_) (fun c_4 => ?_)
  · refine gd_vret dX6_fail_17 ?_
    first
    | exact ⟨rfl, fun _ _ => rfl, by unfold gx_fl; rw [if_neg (fun q => c_4 (by rw [q]; decide))]; exact hR⟩
    | exact ⟨rfl, fun a ha => by rw [o_14 a ha, o_9 a ha], by
      unfold gx_fl
      rw [if_pos (Decidable.byContradiction fun q => nI_ne0 (Nat.pos_of_ne_zero q) (by have := rw9.2.2.1; omega) c_4)]
      refine ⟨⟨?_, ?_, ?_, ?_⟩, fun j hj => by rw [o_14 3 (by decide), o_9 3 (by decide)]; exact hR.2 j hj⟩
      · rw [e_14, upd_ne _ _ (by decide), e_9, upd_ne _ _ (by decide)]; exact hR.1.1
      · rw [e_14, upd_ne _ _ (by decide), e_9, upd_ne _ _ (by decide)]; exact hR.1.2.1
      · rw [e_14, upd_ne _ _ (by decide), e_9, upd_eq]
      · rw [e_14, upd_eq, gx_seat_s]⟩
  · refine ga_aload_n 0 dX6_fail_7 rfl ?_
    refine ga_iload_n 1 dX6_fail_8 rfl ?_
    refine gw_put 3 kp_X6_26 (sh2 _) (sh2 _) rfl rfl (Nat.le_of_ble_eq_true rfl) dX6_fail_9 (fun w_9 o_9 e_9 => ?_)
    refine ga_aload_n 0 dX6_fail_12 rfl ?_
    refine ga_iload_n 2 dX6_fail_13 rfl ?_
    refine gw_put 4 kp_X6_15 (sh2 _) (sh2 _) rfl rfl (Nat.le_of_ble_eq_true rfl) dX6_fail_14 (fun w_14 o_14 e_14 => ?_)
    refine gd_vret dX6_fail_17 ?_
    first
    | exact ⟨rfl, fun _ _ => rfl, by unfold gx_fl; rw [if_neg (fun q => c_4 (by rw [q]; decide))]; exact hR⟩
    | exact ⟨rfl, fun a ha => by rw [o_14 a ha, o_9 a ha], by
      unfold gx_fl
      rw [if_pos (Decidable.byContradiction fun q => nI_ne0 (Nat.pos_of_ne_zero q) (by have := rw9.2.2.1; omega) c_4)]
      refine ⟨⟨?_, ?_, ?_, ?_⟩, fun j hj => by rw [o_14 3 (by decide), o_9 3 (by decide)]; exact hR.2 j hj⟩
      · rw [e_14, upd_ne _ _ (by decide), e_9, upd_ne _ _ (by decide)]; exact hR.1.1
      · rw [e_14, upd_ne _ _ (by decide), e_9, upd_ne _ _ (by decide)]; exact hR.1.2.1
      · rw [e_14, upd_ne _ _ (by decide), e_9, upd_eq]
      · rw [e_14, upd_eq, gx_seat_s]⟩
set_option maxRecDepth 100000 in
set_option maxHeartbeats 4000000 in
theorem c_X6_takeSign {l : Launch} {G : gt_G} {n : Nat} {w : gt_W} {x : Nat → Nat} {L : Nat} {s : gx_T} (hR : gx_Rd w x L s) (rw9 : gx_RW x L s) {c9 : Nat} (hc9 : c9 ≤ 255) : gt_D l G yX6_takeSign cX6_takeSign 2 none 3 n [.ref 2, .int (nI c9)] w (fun r w' => r = none ∧ (∀ a, a ≠ 2 → w' a = w a) ∧ gx_Rd w' x L (gx_sgn x L s c9)) := by
  refine gt_D_of (own := RX6) (nm := "takeSign") rfl rfl (by decide +kernel) (Nat.le_of_ble_eq_true rfl) ?_
  show gt_A _ _ _ _ _ _ _ _ _ _ _ [(0, .ref 2), (1, .int (nI c9))] _ _
  refine ga_aload_n 0 dX6_takeSign_0 rfl ?_
  refine ga_iload_n 1 dX6_takeSign_1 rfl ?_
  refine gd_V1 km_X6_59 kv_X6_nextIs (c_X6_nextIs hR rw9 hc9) (sh2 _) rfl rfl (gt_rc0 (by decide)) (Nat.le_of_ble_eq_true rfl) dX6_takeSign_2 (fun r_2 w_2 q_2 => ?_)
  obtain ⟨rfl, o0, hR⟩ := q_2
  have hRW := gx_RW_sk rw9
  refine ga_if_eq 21 dX6_takeSign_5 (by decide) (fun c_5 => ?_) (fun c_5 => ?_)
  · refine ga_aload_n 0 dX6_takeSign_21 rfl ?_
    refine ga_iconst (nI 1) dX6_takeSign_22 (by decide) ?_
    refine ga_aload_n 0 dX6_takeSign_23 rfl ?_
    refine ga_get kf_X6_23 (sh2 _) (gv hR.1.2.1) dX6_takeSign_24 ?_
    refine gd_V2 km_X6_63 kv_X6_fail (c_X6_fail hR hRW) (sh2 _) rfl rfl (gt_rc0 (by decide)) (Nat.le_of_ble_eq_true rfl) dX6_takeSign_27 (fun r_27 w_27 q_27 => ?_)
    obtain ⟨rfl, o27, hR27⟩ := q_27
    refine gd_vret dX6_takeSign_30 ?_
    first
    | exact ⟨rfl, fun a ha => by rw [o_15 a ha, o0 a ha], by unfold gx_sgn; rw [if_pos (Decidable.byContradiction fun q => c_5 (by rw [if_neg q]; decide))]; exact gx_Rd_at o_15 e_15 hR⟩
    | exact ⟨rfl, fun a ha => by rw [o27 a ha, o0 a ha], by unfold gx_sgn; rw [if_neg (fun q => absurd c_5 (by rw [if_pos q]; decide))]; exact hR27⟩
  · refine ga_aload_n 0 dX6_takeSign_8 rfl ?_
    refine ga_dup dX6_takeSign_9 rfl ?_
    refine ga_get kf_X6_23 (sh2 _) (gv hR.1.2.1) dX6_takeSign_10 ?_
    refine ga_iconst (nI 1) dX6_takeSign_13 (by decide) ?_
    refine ga_iadd dX6_takeSign_14 ?_
    refine ga_top (nI (gx_skip x L s.1 + 1)) (nI_add _ 1) ?_
    refine gw_put 2 kp_X6_23 (sh2 _) (sh2 _) rfl rfl (Nat.le_of_ble_eq_true rfl) dX6_takeSign_15 (fun w_15 o_15 e_15 => ?_)
    refine ga_goto 30 dX6_takeSign_18 (by decide) ?_
    refine gd_vret dX6_takeSign_30 ?_
    first
    | exact ⟨rfl, fun a ha => by rw [o_15 a ha, o0 a ha], by unfold gx_sgn; rw [if_pos (Decidable.byContradiction fun q => c_5 (by rw [if_neg q]; decide))]; exact gx_Rd_at o_15 e_15 hR⟩
    | exact ⟨rfl, fun a ha => by rw [o27 a ha, o0 a ha], by unfold gx_sgn; rw [if_neg (fun q => absurd c_5 (by rw [if_pos q]; decide))]; exact hR27⟩
set_option maxRecDepth 100000 in
set_option maxHeartbeats 4000000 in
theorem c_X6_isFigure {l : Launch} {G : gt_G} {n : Nat} {w : gt_W} {v : Nat} (hv : v ≤ 255) : gt_C l G yX6_isFigure cX6_isFigure 1 (some .boolean) 1 0 0 n [.int (nI v)] (gt_enc w) (some (.int (if 48 ≤ v ∧ v ≤ 57 then nI 1 else nI 0))) (gt_enc (w)) := by
  refine gt_C_of (own := RX6) (nm := "isFigure") rfl rfl (by decide +kernel) (Nat.le_of_ble_eq_true rfl) ?_
  show gt_A _ _ _ _ _ _ _ _ _ _ _ [(0, .int (nI v))] _ _
  refine ga_iload_n 0 dX6_isFigure_0 rfl ?_
  refine ga_bipush (nI 48) dX6_isFigure_1 (by decide) ?_
  refine ga_icmp_lt 16 dX6_isFigure_3 (by decide) (fun c_3 => ?_) (fun c_3 => ?_)
  · refine ga_iconst (nI 0) dX6_isFigure_16 (by decide) ?_
    refine ga_zret dX6_isFigure_17 (by decide) (gv ?_) rfl
    first
    | exact if_pos ⟨Decidable.byContradiction fun q => absurd (nI_lt (Nat.lt_of_not_le q) (by omega)) c_3, (nI_leI (by omega) (by omega)).mp (Int32.not_lt.mp c_9)⟩
    | exact if_neg (fun q => absurd c_3 (nI_nlt q.1 (by omega)))
    | exact if_neg (fun q => absurd c_9 (nI_nlt q.2 (by omega)))
  · refine ga_iload_n 0 dX6_isFigure_6 rfl ?_
    refine ga_bipush (nI 57) dX6_isFigure_7 (by decide) ?_
    refine ga_icmp_gt 16 dX6_isFigure_9 (by decide) (fun c_9 => ?_) (fun c_9 => ?_)
    · refine ga_iconst (nI 0) dX6_isFigure_16 (by decide) ?_
      refine ga_zret dX6_isFigure_17 (by decide) (gv ?_) rfl
      first
      | exact if_pos ⟨Decidable.byContradiction fun q => absurd (nI_lt (Nat.lt_of_not_le q) (by omega)) c_3, (nI_leI (by omega) (by omega)).mp (Int32.not_lt.mp c_9)⟩
      | exact if_neg (fun q => absurd c_3 (nI_nlt q.1 (by omega)))
      | exact if_neg (fun q => absurd c_9 (nI_nlt q.2 (by omega)))
    · refine ga_iconst (nI 1) dX6_isFigure_12 (by decide) ?_
      refine ga_goto 17 dX6_isFigure_13 (by decide) ?_
      refine ga_zret dX6_isFigure_17 (by decide) (gv ?_) rfl
      first
      | exact if_pos ⟨Decidable.byContradiction fun q => absurd (nI_lt (Nat.lt_of_not_le q) (by omega)) c_3, (nI_leI (by omega) (by omega)).mp (Int32.not_lt.mp c_9)⟩
      | exact if_neg (fun q => absurd c_3 (nI_nlt q.1 (by omega)))
      | exact if_neg (fun q => absurd c_9 (nI_nlt q.2 (by omega)))
