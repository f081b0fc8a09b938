/-- what is found so far: the least arms, the plan (0: rests, t + 1: at tower t) -/
abbrev gx_Sg : Type := Nat × (Nat → Nat)
def gx_rs (ρ : Nat → Nat) (p v : Nat) : Nat → Nat := fun q => if q = p then v else ρ q
def gx_cut (ρ : Nat → Nat) (p : Nat) : Nat → Nat := fun q => if q < p then ρ q else 0
abbrev gx_fr (ρ : Nat → Nat) (p t : Nat) : Prop := ∀ q, q < p → ¬ ρ q = t + 1
def gx_fold {α : Type} (f : Nat → α → α) : Nat → α → α
  | 0, s => s
  | t + 1, s => f t (gx_fold f t s)
theorem gx_fold_id {α : Type} {f : Nat → α → α} {s : α} : ∀ n, (∀ t, t < n → f t s = s) → gx_fold f n s = s
  | 0, _ => rfl
  | n + 1, h => by
    show f n (gx_fold f n s) = s
    rw [gx_fold_id n (fun t ht => h t (by omega)), h n (by omega)]
/-- the class's search: of the last j players so many as are left sit, in the document's order -/
def gx_sf (g : Nat → Nat → Nat) (ar : Nat → Nat) (P T A B : Nat) : Nat → (Nat → Nat) → Nat → Nat → Nat → gx_Sg → gx_Sg
  | 0, ρ, left, arms, gained, σ => if left = 0 ∧ arms < σ.1 ∧ A ≤ gained + B then (arms, gx_cut ρ P) else σ
  | j + 1, ρ, left, arms, gained, σ =>
    if left = 0 then (if arms < σ.1 ∧ A ≤ gained + B then (arms, gx_cut ρ (P - (j + 1))) else σ)
    else gx_sf g ar P T A B j (gx_rs ρ (P - (j + 1)) 0) left arms gained (gx_fold (fun t σ => if gx_fr ρ (P - (j + 1)) t ∧ 0 < g (P - (j + 1)) t then gx_sf g ar P T A B j (gx_rs ρ (P - (j + 1)) (t + 1)) (left - 1) (arms + ar (P - (j + 1))) (gained + g (P - (j + 1)) t) σ else σ) T σ)
theorem gx_sf_arms {g : Nat → Nat → Nat} {ar : Nat → Nat} {P T A B : Nat} : ∀ j ρ left arms gained (σ : gx_Sg), σ.1 ≤ arms → gx_sf g ar P T A B j ρ left arms gained σ = σ
  | 0, ρ, left, arms, gained, σ, h => if_neg (fun q => by have := q.2.1; omega)
  | j + 1, ρ, left, arms, gained, σ, h => by
    unfold gx_sf
    by_cases hl : left = 0
    · rw [if_pos hl, if_neg (fun q => by have := q.1; omega)]
    · rw [if_neg hl, gx_fold_id T (fun t ht => ?_)]
      · exact gx_sf_arms j _ _ _ _ _ h
      · split
        · exact gx_sf_arms j _ _ _ _ _ (by omega)
        · rfl
theorem gx_sf_need {g : Nat → Nat → Nat} {ar : Nat → Nat} {P T A B : Nat} {f : Nat → Nat} (hf : ∀ p t, t < T → g p t ≤ f p) : ∀ j ρ left arms gained (σ : gx_Sg), ¬ A ≤ gained + gx_mg f P j left + B → gx_sf g ar P T A B j ρ left arms gained σ = σ
  | 0, ρ, left, arms, gained, σ, h => if_neg (fun q => h (by have := q.2.2; omega))
  | j + 1, ρ, left, arms, gained, σ, h => by
    unfold gx_sf
    by_cases hl : left = 0
    · rw [if_pos hl, if_neg (fun q => h (by have := q.2; omega))]
    · obtain ⟨k, rfl⟩ : ∃ k, left = k + 1 := ⟨left - 1, by omega⟩
      have e : gx_mg f P (j + 1) (k + 1) = max (gx_mg f P j (k + 1)) (gx_mg f P j k + f (P - (j + 1))) := rfl
      have h1 := Nat.le_max_left (gx_mg f P j (k + 1)) (gx_mg f P j k + f (P - (j + 1)))
      have h2 := Nat.le_max_right (gx_mg f P j (k + 1)) (gx_mg f P j k + f (P - (j + 1)))
      rw [← e] at h1 h2
      rw [if_neg hl, gx_fold_id T (fun t ht => ?_)]
      · exact gx_sf_need hf j _ _ _ _ _ (by omega)
      · split
        · have h3 := hf (P - (j + 1)) t ht
          exact gx_sf_need hf j _ _ _ _ _ (by rw [Nat.add_sub_cancel]; omega)
        · rfl
theorem gx_fold_inv {α : Type} {f : Nat → α → α} {I : α → Prop} {s : α} (h0 : I s) : ∀ n, (∀ t σ, t < n → I σ → I (f t σ)) → I (gx_fold f n s)
  | 0, _ => h0
  | n + 1, h => h n _ (by omega) (gx_fold_inv h0 n (fun t σ ht => h t σ (by omega)))
theorem gx_sf_lt {g : Nat → Nat → Nat} {ar : Nat → Nat} {P T A B : Nat} : ∀ j ρ left arms gained (σ : gx_Sg), σ.1 < 2 ^ 31 → (gx_sf g ar P T A B j ρ left arms gained σ).1 < 2 ^ 31
  | 0, ρ, left, arms, gained, σ, h => by
    unfold gx_sf
    split
    · rename_i q; show arms < _; have := q.2.1; omega
    · exact h
  | j + 1, ρ, left, arms, gained, σ, h => by
    unfold gx_sf
    split
    · split
      · rename_i q; show arms < _; have := q.1; omega
      · exact h
    · refine gx_sf_lt j _ _ _ _ _ (gx_fold_inv (I := fun σ : gx_Sg => σ.1 < 2 ^ 31) h T (fun t σ _ hσ => ?_))
      split
      · exact gx_sf_lt j _ _ _ _ _ hσ
      · exact hσ
theorem gx_needN {a b x : Nat} (ha : a < 2 ^ 29) (hb : b < 2 ^ 29) (hx : x < 2 ^ 29) : nI a - nI b ≤ nI x ↔ a ≤ x + b := by
  rw [Int32.le_iff_toInt_le, pk_sub_toInt (by omega) (by omega), nI_toInt (by omega)]
  omega
/-- the plan's memory: the gains, the need, what is found -/
def gx_PS (w : gt_W) (K V : gx_K) (m : Int32) (k n A B : Nat) (σ : gx_Sg) : Prop := gx_Gn w K V m k n 0 ∧ w 123 5 = nI A - nI B ∧ w 123 4 = nI σ.1 ∧ ∀ q, q < 6 → w 124 q = gx_seat (σ.2 q)
def gx_Tr (w : gt_W) (p : Nat) (ρ : Nat → Nat) : Prop := ∀ q, q < p → w 125 q = gx_seat (ρ q)
theorem gx_Gn_eq {w w' : gt_W} {K V : gx_K} {m : Int32} {k n p : Nat} (kw : gx_KW K) (e : ∀ a, 127 ≤ a → a < 141 → w' a = w a) (h : gx_Gn w K V m k n p) : gx_Gn w' K V m k n p := by
  have := kw.2.2.1
  exact ⟨fun q t h1 h2 h3 => by rw [e (127 + q) (by omega) (by omega)]; exact h.1 q t h1 h2 h3, fun q i h1 h2 h3 => by rw [e (134 + q) (by omega) (by omega)]; exact h.2 q i h1 h2 h3⟩
theorem gx_mask {M : Int32} {u t : Nat} (hu : u < 6) (ht : t < 6) : ((M ||| (nI 1 <<< (nI t &&& 31))) >>> (nI u &&& 31)) &&& nI 1 = 0 ↔ (¬ u = t ∧ (M >>> (nI u &&& 31)) &&& nI 1 = 0) := by
  rw [gx_bit0 _ (by omega), gx_bit0 _ (by omega), gx_bit_or, gx_bit_one (by omega)]
  by_cases e : u = t <;> simp [e]
set_option maxRecDepth 100000 in
set_option maxHeartbeats 4000000 in
theorem c_X5_take {l : Launch} {G : gt_G} {n : Nat} {w : gt_W} {p a9 : Nat} (hp : p ≤ 6) : gt_D l G yX5_take cX5_take 3 none 2 n [.ref 123, .int (nI p), .int (nI a9)] w (fun r w' => r = none ∧ (∀ a, a ≠ 123 → a ≠ 124 → w' a = w a) ∧ w' 123 4 = nI a9 ∧ w' 123 5 = w 123 5 ∧ ∀ q, q < 6 → w' 124 q = if q < p then w 125 q else -1) := by
  refine gt_D_of (own := RX5) (nm := "take") rfl rfl (by decide +kernel) (Nat.le_of_ble_eq_true rfl) ?_
  show gt_A _ _ _ _ _ _ _ _ _ _ _ [(0, .ref 123), (1, .int (nI p)), (2, .int (nI a9))] _ _
  refine ga_aload_n 0 dX5_take_0 rfl ?_
  refine ga_iload_n 2 dX5_take_1 rfl ?_
  refine gw_put 4 kp_X5_43 (sh123 _) (sh123 _) rfl rfl (Nat.le_of_ble_eq_true rfl) dX5_take_2 (fun w_2 o_2 e_2 => ?_)
  refine ga_aload_n 0 dX5_take_5 rfl ?_
  refine ga_get kf_X5_9 (sh123 _) rfl dX5_take_6 ?_
  refine ga_iconst ((-1)) dX5_take_9 (by decide) ?_
  refine ga_S2 km_X5_77 kv_J7_fill_53178 (c_J7_fill_53178 sh124 (by decide)) (gt_rc0 (by decide)) (Nat.le_of_ble_eq_true rfl) dX5_take_10 ?_
  refine ga_aload_n 0 dX5_take_13 rfl ?_
  refine ga_get kf_X5_15 (sh123 _) rfl dX5_take_14 ?_
  refine ga_iconst (nI 0) dX5_take_17 (by decide) ?_
  refine ga_aload_n 0 dX5_take_18 rfl ?_
  refine ga_get kf_X5_9 (sh123 _) rfl dX5_take_19 ?_
  refine ga_iconst (nI 0) dX5_take_22 (by decide) ?_
  refine ga_iload_n 1 dX5_take_23 rfl ?_
  refine ge_copy km_X5_107 sh125 sh124 (k0 := 0) (k1 := 0) (m := p) rfl rfl rfl (by omega) (by omega) (by decide) (gt_room2 (by decide)) (Nat.le_of_ble_eq_true rfl) dX5_take_24 ?_
  exact gd_vret dX5_take_27 ⟨rfl, fun a h1 h2 => by rw [gt_wr_ne _ _ h2, gt_wr_ne _ _ h2]; exact o_2 a h1, by rw [gt_wr_ne _ _ (by decide), gt_wr_ne _ _ (by decide), e_2, upd_eq], by rw [gt_wr_ne _ _ (by decide), gt_wr_ne _ _ (by decide), e_2, upd_ne _ _ (by decide)], fun q hq => by
    rw [gt_wr_eq, gt_wr_ne _ _ (by decide), gt_wr_eq, o_2 125 (by decide)]
    unfold va_cpy
    by_cases h9 : q < p
    · rw [if_pos (by omega), if_pos h9]; congr 1; omega
    · rw [if_neg (by omega), if_neg h9]; exact if_pos hq⟩
set_option maxRecDepth 100000 in
set_option maxHeartbeats 4000000 in
theorem c_X5_seatFrom {l : Launch} {G : gt_G} {n : Nat} {c : Nat} {K V : gx_K} {m : Int32} {k9 n9 A B : Nat} (hc : gt_isC c) (kw : gx_KW K) (vw : gx_VW K V) (hA : A < 2 ^ 20) (hB : B < 2 ^ 20) : ∀ j, j ≤ K 0 2 → (∀ (ρ : Nat → Nat) (left arms gained : Nat) (M : Int32) (σ : gx_Sg) (w : gt_W), left ≤ 6 → arms + 9 * j ≤ 1000 → gained + 99 * j ≤ 1000 → σ.1 < 2 ^ 31 → gx_Co w c K → gx_PS w K V m k9 n9 A B σ → gx_Tr w (K 0 2 - j) ρ → (∀ t, t < K 0 1 → ((M >>> (nI t &&& 31)) &&& nI 1 = 0 ↔ gx_fr ρ (K 0 2 - j) t)) → gt_D l G yX5_seatFrom cX5_seatFrom 8 none (3 + j) n [.ref 123, .ref c, .int (nI (K 0 2 - j)), .int M, .int (nI left), .int (nI arms), .int (nI gained)] w (fun r w' => r = none ∧ (∀ a, a ≠ 123 → a ≠ 124 → a ≠ 125 → w' a = w a) ∧ gx_PS w' K V m k9 n9 A B (gx_sf (gx_g K V m k9 n9) (K 4) (K 0 2) (K 0 1) A B j ρ left arms gained σ) ∧ (∀ q, q < K 0 2 - j → w' 125 q = w 125 q))) := by
  intro j
  have hP6 := kw.2.2.1
  have hT6 := kw.2.1
  have hgm : ∀ p t, t < K 0 1 → gx_g K V m k9 n9 p t ≤ gx_gm K V m k9 n9 p := fun p t ht => gx_mx_ge (f := gx_g K V m k9 n9 p) (K 0 1) t ht
  have hg99 : ∀ p t, t < K 0 1 → gx_g K V m k9 n9 p t ≤ 99 := fun p t ht => gx_g_le (vw.2.1 t ht) _ _
  induction j with
  | zero =>
    intro _ ρ left arms gained M σ w hl6 ha hg hσ hK hS hT hM
    have hmg := gx_mg_le (f := gx_gm K V m k9 n9) (P := K 0 2) (fun p => gx_mx_le _ (fun q hq => hg99 p q hq)) 0 left
    obtain ⟨p, hp⟩ : ∃ p, p = K 0 2 - 0 := ⟨_, rfl⟩
    rw [← hp]
    refine gt_D_of (own := RX5) (nm := "seatFrom") rfl rfl (by decide +kernel) (Nat.le_of_ble_eq_true rfl) ?_
    show gt_A _ _ _ _ _ _ _ _ _ _ _ [(0, .ref 123), (1, .ref c), (2, .int (nI p)), (3, .int M), (4, .int (nI left)), (5, .int (nI arms)), (6, .int (nI gained))] _ _
    refine ga_iload 5 dX5_seatFrom_0 rfl ?_
    refine ga_aload_n 0 dX5_seatFrom_2 rfl ?_
    refine ga_get kf_X5_43 (sh123 _) (gv hS.2.2.1) dX5_seatFrom_3 ?_
    refine ga_icmp_ge 28 dX5_seatFrom_6 (by decide) (fun c_6 => ?_) (fun c_6 => ?_)
    · refine gd_vret dX5_seatFrom_28 ⟨rfl, fun _ _ _ _ => rfl, ?_, fun _ _ => rfl⟩
      first | (rw [gx_sf_arms 0 _ _ _ _ _ ((nI_leI hσ (by omega)).mp c_6)]; exact hS) | (rw [gx_sf_need hgm 0 _ _ _ _ _ (fun q => c_25 ((gx_needN (by omega) (by omega) (by omega)).mpr q))]; exact hS)
    · have hla : arms < σ.1 := Nat.lt_of_not_le (fun q => c_6 (nI_le q (by omega)))
      refine ga_iload 6 dX5_seatFrom_9 rfl ?_
      refine ga_aload_n 0 dX5_seatFrom_11 rfl ?_
      refine ga_get kf_X5_23 (sh123 _) rfl dX5_seatFrom_12 ?_
      refine ga_iload_n 2 dX5_seatFrom_15 rfl ?_
      refine ge_aald sh133 rfl rfl (gt_ixn (by omega)) (if_pos (by omega)) dX5_seatFrom_16 ?_
      refine ga_iload 4 dX5_seatFrom_17 rfl ?_
      refine ge_ialdE (shRow (b := 134) (k := p) (Or.inr (Or.inl ⟨rfl, rfl, by omega⟩))) (gt_ixn (by omega)) (v := nI (gx_mg (gx_gm K V m k9 n9) (K 0 2) (0) left)) (by have h8 := hS.1.2 (p) left (Nat.zero_le _) (by omega) (by omega); rw [show K 0 2 - (p) = 0 by omega] at h8; exact h8) dX5_seatFrom_19 ?_
      refine ga_iadd dX5_seatFrom_20 ?_
      refine ga_top (nI (gained + gx_mg (gx_gm K V m k9 n9) (K 0 2) (0) left)) (nI_add _ _) ?_
      refine ga_aload_n 0 dX5_seatFrom_21 rfl ?_
      refine ga_get kf_X5_35 (sh123 _) (gv hS.2.1) dX5_seatFrom_22 ?_
      refine ga_icmp_ge 29 dX5_seatFrom_25 (by decide) (fun c_25 => ?_) (fun c_25 => ?_)
      · have hok := (gx_needN (by omega) (by omega) (by omega)).mp c_25
        refine ga_iload 4 dX5_seatFrom_29 rfl ?_
        refine ga_if_ne 42 dX5_seatFrom_31 (by decide) (fun c_31 => ?_) (fun c_31 => ?_)
        · have hz : ¬ left = 0 := fun q => c_31 (by rw [q]; decide)
          refine ga_iload_n 2 dX5_seatFrom_42 rfl ?_
          refine ga_aload_n 1 dX5_seatFrom_43 rfl ?_
          refine ga_get kf_X5_46 (shC hc _) (gv hK.1.2.2.1) dX5_seatFrom_44 ?_
          refine ga_icmp_lt 51 dX5_seatFrom_47 (by decide) (fun c_47 => absurd c_47 (nI_nlt (by omega) (by omega))) (fun c_47 => ?_)
          exact gd_vret dX5_seatFrom_50 ⟨rfl, fun _ _ _ _ => rfl, by rw [show gx_sf (gx_g K V m k9 n9) (K 4) (K 0 2) (K 0 1) A B 0 ρ left arms gained σ = σ from if_neg (fun q => hz q.1)]; exact hS, fun _ _ => rfl⟩
        · have hz : left = 0 := Decidable.byContradiction fun q => nI_ne0 (Nat.pos_of_ne_zero q) (by omega) c_31
          refine ga_aload_n 0 dX5_seatFrom_34 rfl ?_
          refine ga_iload_n 2 dX5_seatFrom_35 rfl ?_
          refine ga_iload 5 dX5_seatFrom_36 rfl ?_
          refine gd_V2 km_X5_104 kv_X5_take (c_X5_take (p := p) (by omega)) (sh123 _) rfl rfl (gt_rc0 (by omega)) (Nat.le_of_ble_eq_true rfl) dX5_seatFrom_38 (fun r_38 w_38 q_38 => ?_)
          obtain ⟨rfl, o38, e38a, e38b, e38c⟩ := q_38
          exact gd_vret dX5_seatFrom_41 ⟨rfl, fun a h1 h2 h3 => o38 a h1 h2, by
        have hok2 : A ≤ gained + B := by rw [hz] at hok; simpa [gx_mg] using hok
        rw [show gx_sf (gx_g K V m k9 n9) (K 4) (K 0 2) (K 0 1) A B 0 ρ left arms gained σ = (arms, gx_cut ρ (K 0 2)) from if_pos ⟨hz, hla, hok2⟩]
        exact ⟨gx_Gn_eq kw (fun a h1 h2 => o38 a (by omega) (by omega)) hS.1, by rw [e38b]; exact hS.2.1, e38a, fun q hq => by
          rw [e38c q hq]
          show _ = gx_seat (gx_cut ρ (K 0 2) q)
          unfold gx_cut
          by_cases h9 : q < K 0 2
          · rw [if_pos (by omega), if_pos h9]; exact hT q (by omega)
          · rw [if_neg (by omega), if_neg h9, gx_seat_0]⟩, fun q hq => by rw [o38 125 (by decide) (by decide)]⟩
      · refine gd_vret dX5_seatFrom_28 ⟨rfl, fun _ _ _ _ => rfl, ?_, fun _ _ => rfl⟩
        first | (rw [gx_sf_arms 0 _ _ _ _ _ ((nI_leI hσ (by omega)).mp c_6)]; exact hS) | (rw [gx_sf_need hgm 0 _ _ _ _ _ (fun q => c_25 ((gx_needN (by omega) (by omega) (by omega)).mpr q))]; exact hS)
  | succ j ih =>
    intro hj ρ left arms gained M σ w hl6 ha hg hσ hK hS hT hM
    have hmg := gx_mg_le (f := gx_gm K V m k9 n9) (P := K 0 2) (fun p => gx_mx_le _ (fun q hq => hg99 p q hq)) (j + 1) left
    have ih := ih (by omega)
    obtain ⟨p, hp⟩ : ∃ p, p = K 0 2 - (j + 1) := ⟨_, rfl⟩
    have hp1 : K 0 2 - j = p + 1 := by omega
    have har := kw.2.2.2.2.2.2.2.1 p (by omega)
    rw [hp1] at ih
    rw [← hp] at hT hM ⊢
    refine gt_D_of (own := RX5) (nm := "seatFrom") rfl rfl (by decide +kernel) (Nat.le_of_ble_eq_true rfl) ?_
    show gt_A _ _ _ _ _ _ _ _ _ _ _ [(0, .ref 123), (1, .ref c), (2, .int (nI p)), (3, .int M), (4, .int (nI left)), (5, .int (nI arms)), (6, .int (nI gained))] _ _
    refine ga_iload 5 dX5_seatFrom_0 rfl ?_
    refine ga_aload_n 0 dX5_seatFrom_2 rfl ?_
    refine ga_get kf_X5_43 (sh123 _) (gv hS.2.2.1) dX5_seatFrom_3 ?_
    refine ga_icmp_ge 28 dX5_seatFrom_6 (by decide) (fun c_6 => ?_) (fun c_6 => ?_)
    · refine gd_vret dX5_seatFrom_28 ⟨rfl, fun _ _ _ _ => rfl, ?_, fun _ _ => rfl⟩
      first | (rw [gx_sf_arms (j + 1) _ _ _ _ _ ((nI_leI hσ (by omega)).mp c_6)]; exact hS) | (rw [gx_sf_need hgm (j + 1) _ _ _ _ _ (fun q => c_25 ((gx_needN (by omega) (by omega) (by omega)).mpr q))]; exact hS)
    · have hla : arms < σ.1 := Nat.lt_of_not_le (fun q => c_6 (nI_le q (by omega)))
      refine ga_iload 6 dX5_seatFrom_9 rfl ?_
      refine ga_aload_n 0 dX5_seatFrom_11 rfl ?_
      refine ga_get kf_X5_23 (sh123 _) rfl dX5_seatFrom_12 ?_
      refine ga_iload_n 2 dX5_seatFrom_15 rfl ?_
      refine ge_aald sh133 rfl rfl (gt_ixn (by omega)) (if_pos (by omega)) dX5_seatFrom_16 ?_
      refine ga_iload 4 dX5_seatFrom_17 rfl ?_
      refine ge_ialdE (shRow (b := 134) (k := p) (Or.inr (Or.inl ⟨rfl, rfl, by omega⟩))) (gt_ixn (by omega)) (v := nI (gx_mg (gx_gm K V m k9 n9) (K 0 2) (j + 1) left)) (by have h8 := hS.1.2 (p) left (Nat.zero_le _) (by omega) (by omega); rw [show K 0 2 - (p) = j + 1 by omega] at h8; exact h8) dX5_seatFrom_19 ?_
      refine ga_iadd dX5_seatFrom_20 ?_
      refine ga_top (nI (gained + gx_mg (gx_gm K V m k9 n9) (K 0 2) (j + 1) left)) (nI_add _ _) ?_
      refine ga_aload_n 0 dX5_seatFrom_21 rfl ?_
      refine ga_get kf_X5_35 (sh123 _) (gv hS.2.1) dX5_seatFrom_22 ?_
      refine ga_icmp_ge 29 dX5_seatFrom_25 (by decide) (fun c_25 => ?_) (fun c_25 => ?_)
      · have hok := (gx_needN (by omega) (by omega) (by omega)).mp c_25
        refine ga_iload 4 dX5_seatFrom_29 rfl ?_
        refine ga_if_ne 42 dX5_seatFrom_31 (by decide) (fun c_31 => ?_) (fun c_31 => ?_)
        · have hz : ¬ left = 0 := fun q => c_31 (by rw [q]; decide)
          refine ga_iload_n 2 dX5_seatFrom_42 rfl ?_
          refine ga_aload_n 1 dX5_seatFrom_43 rfl ?_
          refine ga_get kf_X5_46 (shC hc _) (gv hK.1.2.2.1) dX5_seatFrom_44 ?_
          refine ga_icmp_lt 51 dX5_seatFrom_47 (by decide) (fun c_47 => ?_) (fun c_47 => absurd (nI_lt (by omega) (by omega)) c_47)
          refine ga_iconst (nI 0) dX5_seatFrom_51 (by decide) ?_
          refine gs_istore [(0, _), (1, _), (2, _), (3, _), (4, _), (5, _), (6, _), (7, _)] dX5_seatFrom_52 (by decide) rfl rfl ?_
          have loop : ∀ k2 t, t + k2 = K 0 1 → ∀ w2 : gt_W, gx_Co w2 c K → (∀ a, a ≠ 123 → a ≠ 124 → a ≠ 125 → w2 a = w a) → gx_PS w2 K V m k9 n9 A B (gx_fold (fun t σ => if gx_fr ρ p t ∧ 0 < gx_g K V m k9 n9 p t then gx_sf (gx_g K V m k9 n9) (K 4) (K 0 2) (K 0 1) A B j (gx_rs ρ p (t + 1)) (left - 1) (arms + K 4 p) (gained + gx_g K V m k9 n9 p t) σ else σ) t σ) → (∀ q, q < p → w2 125 q = w 125 q) → gt_A l G RX5 "seatFrom" cX5_seatFrom 8 none (gt_rm (3 + (j + 1)) 0 0) (gt_ZD G n (fun r w' => r = none ∧ (∀ a, a ≠ 123 → a ≠ 124 → a ≠ 125 → w' a = w a) ∧ gx_PS w' K V m k9 n9 A B (gx_sf (gx_g K V m k9 n9) (K 4) (K 0 2) (K 0 1) A B (j + 1) ρ left arms gained σ) ∧ ∀ q, q < p → w' 125 q = w 125 q)) (n, 0, 0) 54 [(0, .ref 123), (1, .ref c), (2, .int (nI p)), (3, .int M), (4, .int (nI left)), (5, .int (nI arms)), (6, .int (nI gained)), (7, .int (nI t))] [] (gt_enc w2) := by
            intro k2
            induction k2 with
            | zero =>
              intro t ht w2 hK hF hS hQ
              have et : t = K 0 1 := by omega
              have hlt : (gx_fold (fun t σ => if gx_fr ρ p t ∧ 0 < gx_g K V m k9 n9 p t then gx_sf (gx_g K V m k9 n9) (K 4) (K 0 2) (K 0 1) A B j (gx_rs ρ p (t + 1)) (left - 1) (arms + K 4 p) (gained + gx_g K V m k9 n9 p t) σ else σ) t σ).1 < 2 ^ 31 := gx_fold_inv (I := fun σ : gx_Sg => σ.1 < 2 ^ 31) hσ t (fun u s _ h => by split; exact gx_sf_lt _ _ _ _ _ _ h; exact h)
              refine ga_iload 7 dX5_seatFrom_54 rfl ?_
              refine ga_aload_n 1 dX5_seatFrom_56 rfl ?_
              refine ga_get kf_X5_49 (shC hc _) (gv hK.1.2.1) dX5_seatFrom_57 ?_
              refine ga_icmp_ge 137 dX5_seatFrom_60 (by decide) (fun c_60 => ?_) (fun c_60 => absurd (nI_le (by omega) (by omega)) c_60)
              refine ga_aload_n 0 dX5_seatFrom_137 rfl ?_
              refine ga_get kf_X5_15 (sh123 _) rfl dX5_seatFrom_138 ?_
              refine ga_iload_n 2 dX5_seatFrom_141 rfl ?_
              refine ga_iconst ((-1)) dX5_seatFrom_142 (by decide) ?_
              refine gw_iast (sh125) (k := p) (gt_ixn (by omega)) dX5_seatFrom_143 (fun w_143 o_143 e_143 => ?_)
              refine ga_aload_n 0 dX5_seatFrom_144 rfl ?_
              refine ga_aload_n 1 dX5_seatFrom_145 rfl ?_
              refine ga_iload_n 2 dX5_seatFrom_146 rfl ?_
              refine ga_iconst (nI 1) dX5_seatFrom_147 (by decide) ?_
              refine ga_iadd dX5_seatFrom_148 ?_
              refine ga_top (nI (p + 1)) (nI_add p 1) ?_
              refine ga_iload_n 3 dX5_seatFrom_149 rfl ?_
              refine ga_iload 4 dX5_seatFrom_150 rfl ?_
              refine ga_iload 5 dX5_seatFrom_152 rfl ?_
              refine ga_iload 6 dX5_seatFrom_154 rfl ?_
              refine gd_S7 km_X5_58 kv_X5_seatFrom (ih (gx_rs ρ p 0) left arms gained M (gx_fold (fun t σ => if gx_fr ρ p t ∧ 0 < gx_g K V m k9 n9 p t then gx_sf (gx_g K V m k9 n9) (K 4) (K 0 2) (K 0 1) A B j (gx_rs ρ p (t + 1)) (left - 1) (arms + K 4 p) (gained + gx_g K V m k9 n9 p t) σ else σ) t σ) w_143 (by omega) (by omega) (by omega) hlt (gx_Co_eq hc (fun a ha => o_143 a (by omega)) hK) ⟨gx_Gn_eq kw (fun a h1 h2 => o_143 a (by omega)) hS.1, by rw [o_143 123 (by decide)]; exact hS.2.1, by rw [o_143 123 (by decide)]; exact hS.2.2.1, fun q hq => by rw [o_143 124 (by decide)]; exact hS.2.2.2 q hq⟩ (fun q hq => by
            rw [e_143]
            unfold gx_rs
            by_cases e : q = p
            · rw [e, upd_eq, if_pos rfl, gx_seat_0]
            · rw [upd_ne _ _ e, if_neg e, hQ q (by omega)]; exact hT q (by omega)) (fun u hu => by
            rw [hM u hu]
            unfold gx_fr gx_rs
            refine ⟨fun h q hq => ?_, fun h q hq => ?_⟩
            · by_cases e : q = p
              · rw [if_pos e]; omega
              · rw [if_neg e]; exact h q (by omega)
            · have h7 := h q (by omega); rw [if_neg (by omega)] at h7; exact h7)) (gt_rc0 (by omega)) (Nat.le_of_ble_eq_true rfl) dX5_seatFrom_156 (fun r_156 w_156 q_156 => ?_)
              obtain ⟨rfl, o156, hS156, hQ156⟩ := q_156
              exact gd_vret dX5_seatFrom_159 ⟨rfl, fun a h1 h2 h3 => by rw [o156 a h1 h2 h3, o_143 a h3]; exact hF a h1 h2 h3, by
          rw [show gx_sf (gx_g K V m k9 n9) (K 4) (K 0 2) (K 0 1) A B (j + 1) ρ left arms gained σ = gx_sf (gx_g K V m k9 n9) (K 4) (K 0 2) (K 0 1) A B j (gx_rs ρ p 0) left arms gained (gx_fold (fun t σ => if gx_fr ρ p t ∧ 0 < gx_g K V m k9 n9 p t then gx_sf (gx_g K V m k9 n9) (K 4) (K 0 2) (K 0 1) A B j (gx_rs ρ p (t + 1)) (left - 1) (arms + K 4 p) (gained + gx_g K V m k9 n9 p t) σ else σ) (K 0 1) σ) by rw [hp]; exact if_neg hz]
          rw [et] at hS156
          exact hS156, fun q hq => by rw [hQ156 q (by omega), e_143, upd_ne _ _ (by omega)]; exact hQ q hq⟩
            | succ k2 ih2 =>
              intro t ht w2 hK hF hS hQ
              have hlt : (gx_fold (fun t σ => if gx_fr ρ p t ∧ 0 < gx_g K V m k9 n9 p t then gx_sf (gx_g K V m k9 n9) (K 4) (K 0 2) (K 0 1) A B j (gx_rs ρ p (t + 1)) (left - 1) (arms + K 4 p) (gained + gx_g K V m k9 n9 p t) σ else σ) t σ).1 < 2 ^ 31 := gx_fold_inv (I := fun σ : gx_Sg => σ.1 < 2 ^ 31) hσ t (fun u s _ h => by split; exact gx_sf_lt _ _ _ _ _ _ h; exact h)
              have efd : gx_fold (fun t σ => if gx_fr ρ p t ∧ 0 < gx_g K V m k9 n9 p t then gx_sf (gx_g K V m k9 n9) (K 4) (K 0 2) (K 0 1) A B j (gx_rs ρ p (t + 1)) (left - 1) (arms + K 4 p) (gained + gx_g K V m k9 n9 p t) σ else σ) (t + 1) σ = (fun t σ => if gx_fr ρ p t ∧ 0 < gx_g K V m k9 n9 p t then gx_sf (gx_g K V m k9 n9) (K 4) (K 0 2) (K 0 1) A B j (gx_rs ρ p (t + 1)) (left - 1) (arms + K 4 p) (gained + gx_g K V m k9 n9 p t) σ else σ) t (gx_fold (fun t σ => if gx_fr ρ p t ∧ 0 < gx_g K V m k9 n9 p t then gx_sf (gx_g K V m k9 n9) (K 4) (K 0 2) (K 0 1) A B j (gx_rs ρ p (t + 1)) (left - 1) (arms + K 4 p) (gained + gx_g K V m k9 n9 p t) σ else σ) t σ) := rfl
              refine ga_iload 7 dX5_seatFrom_54 rfl ?_
              refine ga_aload_n 1 dX5_seatFrom_56 rfl ?_
              refine ga_get kf_X5_49 (shC hc _) (gv hK.1.2.1) dX5_seatFrom_57 ?_
              refine ga_icmp_ge 137 dX5_seatFrom_60 (by decide) (fun c_60 => absurd c_60 (nI_ge (by omega) (by omega))) (fun c_60 => ?_)
              refine ga_iload_n 3 dX5_seatFrom_63 rfl ?_
              refine ga_iload 7 dX5_seatFrom_64 rfl ?_
              refine ga_ishr dX5_seatFrom_66 ?_
              refine ga_iconst (nI 1) dX5_seatFrom_67 (by decide) ?_
              refine ga_iand dX5_seatFrom_68 ?_
              refine ga_if_ne 131 dX5_seatFrom_69 (by decide) (fun c_69 => ?_) (fun c_69 => ?_)
              · refine gs_iincN 7 1 [(0, _), (1, _), (2, _), (3, _), (4, _), (5, _), (6, _), (7, _)] dX5_seatFrom_131 rfl (by decide) (by decide) rfl rfl ?_
                refine ga_goto 54 dX5_seatFrom_134 (by decide) ?_
                first
                | exact ih2 (t + 1) (by omega) _ (gx_Co_eq hc (fun a ha => by rw [o128 a (by omega) (by omega) (by omega), o_91 a (by omega)]) hK) (fun a h1 h2 h3 => by rw [o128 a h1 h2 h3, o_91 a h3]; exact hF a h1 h2 h3) (by rw [efd]; show gx_PS _ K V m k9 n9 A B (if _ then _ else _); rw [if_pos ⟨hfree, hpg⟩]; exact hS128) (fun q hq => by rw [hQ128 q (by omega), e_91, upd_ne _ _ (by omega)]; exact hQ q hq)
                | exact ih2 (t + 1) (by omega) _ hK hF (by rw [efd]; show gx_PS _ K V m k9 n9 A B (if _ then _ else _); rw [if_neg (fun q => hng q.2)]; exact hS) hQ
                | exact ih2 (t + 1) (by omega) _ hK hF (by rw [efd]; show gx_PS _ K V m k9 n9 A B (if _ then _ else _); rw [if_neg (fun q => c_69 ((hM t (by omega)).mpr q.1))]; exact hS) hQ
              · refine ga_aload_n 0 dX5_seatFrom_72 rfl ?_
                refine ga_get kf_X5_20 (sh123 _) rfl dX5_seatFrom_73 ?_
                refine ga_iload_n 2 dX5_seatFrom_76 rfl ?_
                refine ge_aald sh126 rfl rfl (gt_ixn (by omega)) (if_pos (by omega)) dX5_seatFrom_77 ?_
                refine ga_iload 7 dX5_seatFrom_78 rfl ?_
                refine ge_ialdE (shRow (b := 127) (k := p) (Or.inl ⟨rfl, rfl, by omega⟩)) (gt_ixn (by omega)) (v := nI (gx_g K V m k9 n9 p t)) (hS.1.1 p t (Nat.zero_le _) (by omega) (by omega)) dX5_seatFrom_80 ?_
                refine ga_if_le 131 dX5_seatFrom_81 (by decide) (fun c_81 => ?_) (fun c_81 => ?_)
                · have hng : ¬ 0 < gx_g K V m k9 n9 p t := fun q => absurd c_81 (nI_nle q (by have := hg99 p t (by omega); omega))
                  refine gs_iincN 7 1 [(0, _), (1, _), (2, _), (3, _), (4, _), (5, _), (6, _), (7, _)] dX5_seatFrom_131 rfl (by decide) (by decide) rfl rfl ?_
                  refine ga_goto 54 dX5_seatFrom_134 (by decide) ?_
                  first
                  | exact ih2 (t + 1) (by omega) _ (gx_Co_eq hc (fun a ha => by rw [o128 a (by omega) (by omega) (by omega), o_91 a (by omega)]) hK) (fun a h1 h2 h3 => by rw [o128 a h1 h2 h3, o_91 a h3]; exact hF a h1 h2 h3) (by rw [efd]; show gx_PS _ K V m k9 n9 A B (if _ then _ else _); rw [if_pos ⟨hfree, hpg⟩]; exact hS128) (fun q hq => by rw [hQ128 q (by omega), e_91, upd_ne _ _ (by omega)]; exact hQ q hq)
                  | exact ih2 (t + 1) (by omega) _ hK hF (by rw [efd]; show gx_PS _ K V m k9 n9 A B (if _ then _ else _); rw [if_neg (fun q => hng q.2)]; exact hS) hQ
                  | exact ih2 (t + 1) (by omega) _ hK hF (by rw [efd]; show gx_PS _ K V m k9 n9 A B (if _ then _ else _); rw [if_neg (fun q => c_69 ((hM t (by omega)).mpr q.1))]; exact hS) hQ
                · have hpg : 0 < gx_g K V m k9 n9 p t := Nat.pos_of_ne_zero (fun q => c_81 (by rw [q]; decide))
                  have hfree := (hM t (by omega)).mp c_69
                  refine ga_aload_n 0 dX5_seatFrom_84 rfl ?_
                  refine ga_get kf_X5_15 (sh123 _) rfl dX5_seatFrom_85 ?_
                  refine ga_iload_n 2 dX5_seatFrom_88 rfl ?_
                  refine ga_iload 7 dX5_seatFrom_89 rfl ?_
                  refine gw_iast (sh125) (k := p) (gt_ixn (by omega)) dX5_seatFrom_91 (fun w_91 o_91 e_91 => ?_)
                  refine ga_aload_n 0 dX5_seatFrom_92 rfl ?_
                  refine ga_aload_n 1 dX5_seatFrom_93 rfl ?_
                  refine ga_iload_n 2 dX5_seatFrom_94 rfl ?_
                  refine ga_iconst (nI 1) dX5_seatFrom_95 (by decide) ?_
                  refine ga_iadd dX5_seatFrom_96 ?_
                  refine ga_top (nI (p + 1)) (nI_add p 1) ?_
                  refine ga_iload_n 3 dX5_seatFrom_97 rfl ?_
                  refine ga_iconst (nI 1) dX5_seatFrom_98 (by decide) ?_
                  refine ga_iload 7 dX5_seatFrom_99 rfl ?_
                  refine ga_ishl dX5_seatFrom_101 ?_
                  refine ga_ior dX5_seatFrom_102 ?_
                  refine ga_iload 4 dX5_seatFrom_103 rfl ?_
                  refine ga_iconst (nI 1) dX5_seatFrom_105 (by decide) ?_
                  refine ga_isub dX5_seatFrom_106 ?_
                  refine ga_top (nI (left - 1)) (pk_sub (by omega)) ?_
                  refine ga_iload 5 dX5_seatFrom_107 rfl ?_
                  refine ga_aload_n 1 dX5_seatFrom_109 rfl ?_
                  refine ga_get kf_X5_95 (shC hc _) rfl dX5_seatFrom_110 ?_
                  refine ga_iload_n 2 dX5_seatFrom_113 rfl ?_
                  refine ge_ialdE (shC4 hc) (gt_ixn (by omega)) (v := nI (K 4 p)) (by rw [o_91 (c + 4) (by have := gt_isC_lt hc; omega)]; exact hK.2.2.2.2.1 p (by omega)) dX5_seatFrom_114 ?_
                  refine ga_iadd dX5_seatFrom_115 ?_
                  refine ga_top (nI (arms + K 4 p)) (nI_add _ _) ?_
                  refine ga_iload 6 dX5_seatFrom_116 rfl ?_
                  refine ga_aload_n 0 dX5_seatFrom_118 rfl ?_
                  refine ga_get kf_X5_20 (sh123 _) rfl dX5_seatFrom_119 ?_
                  refine ga_iload_n 2 dX5_seatFrom_122 rfl ?_
                  refine ge_aald sh126 rfl rfl (gt_ixn (by omega)) (if_pos (by omega)) dX5_seatFrom_123 ?_
                  refine ga_iload 7 dX5_seatFrom_124 rfl ?_
                  refine ge_ialdE (shRow (b := 127) (k := p) (Or.inl ⟨rfl, rfl, by omega⟩)) (gt_ixn (by omega)) (v := nI (gx_g K V m k9 n9 p t)) (by rw [o_91 (127 + p) (by omega)]; exact hS.1.1 p t (Nat.zero_le _) (by omega) (by omega)) dX5_seatFrom_126 ?_
                  refine ga_iadd dX5_seatFrom_127 ?_
                  refine ga_top (nI (gained + gx_g K V m k9 n9 p t)) (nI_add _ _) ?_
                  refine gd_S7 km_X5_58 kv_X5_seatFrom (ih (gx_rs ρ p (t + 1)) (left - 1) (arms + K 4 p) (gained + gx_g K V m k9 n9 p t) (M ||| (nI 1 <<< (nI t &&& 31))) (gx_fold (fun t σ => if gx_fr ρ p t ∧ 0 < gx_g K V m k9 n9 p t then gx_sf (gx_g K V m k9 n9) (K 4) (K 0 2) (K 0 1) A B j (gx_rs ρ p (t + 1)) (left - 1) (arms + K 4 p) (gained + gx_g K V m k9 n9 p t) σ else σ) t σ) w_91 (by omega) (by omega) (by have := hg99 p t (by omega); omega) hlt (gx_Co_eq hc (fun a ha => o_91 a (by omega)) hK) ⟨gx_Gn_eq kw (fun a h1 h2 => o_91 a (by omega)) hS.1, by rw [o_91 123 (by decide)]; exact hS.2.1, by rw [o_91 123 (by decide)]; exact hS.2.2.1, fun q hq => by rw [o_91 124 (by decide)]; exact hS.2.2.2 q hq⟩ (fun q hq => by
            rw [e_91]
            unfold gx_rs
            by_cases e : q = p
            · rw [e, upd_eq, if_pos rfl, gx_seat_s]
            · rw [upd_ne _ _ e, if_neg e, hQ q (by omega)]; exact hT q (by omega)) (fun u hu => by
            rw [gx_mask (by omega) (by omega), hM u hu]
            unfold gx_fr gx_rs
            refine ⟨fun h q hq => ?_, fun h => ⟨fun e => ?_, fun q hq => ?_⟩⟩
            · by_cases e : q = p
              · rw [if_pos e]; intro z; exact h.1 (by omega)
              · rw [if_neg e]; exact h.2 q (by omega)
            · have h7 := h p (by omega); rw [if_pos rfl] at h7; exact h7 (by rw [e])
            · have h7 := h q (by omega); rw [if_neg (by omega)] at h7; exact h7)) (gt_rc0 (by omega)) (Nat.le_of_ble_eq_true rfl) dX5_seatFrom_128 (fun r_128 w_128 q_128 => ?_)
                  obtain ⟨rfl, o128, hS128, hQ128⟩ := q_128
                  refine gs_iincN 7 1 [(0, _), (1, _), (2, _), (3, _), (4, _), (5, _), (6, _), (7, _)] dX5_seatFrom_131 rfl (by decide) (by decide) rfl rfl ?_
                  refine ga_goto 54 dX5_seatFrom_134 (by decide) ?_
                  first
                  | exact ih2 (t + 1) (by omega) _ (gx_Co_eq hc (fun a ha => by rw [o128 a (by omega) (by omega) (by omega), o_91 a (by omega)]) hK) (fun a h1 h2 h3 => by rw [o128 a h1 h2 h3, o_91 a h3]; exact hF a h1 h2 h3) (by rw [efd]; show gx_PS _ K V m k9 n9 A B (if _ then _ else _); rw [if_pos ⟨hfree, hpg⟩]; exact hS128) (fun q hq => by rw [hQ128 q (by omega), e_91, upd_ne _ _ (by omega)]; exact hQ q hq)
                  | exact ih2 (t + 1) (by omega) _ hK hF (by rw [efd]; show gx_PS _ K V m k9 n9 A B (if _ then _ else _); rw [if_neg (fun q => hng q.2)]; exact hS) hQ
                  | exact ih2 (t + 1) (by omega) _ hK hF (by rw [efd]; show gx_PS _ K V m k9 n9 A B (if _ then _ else _); rw [if_neg (fun q => c_69 ((hM t (by omega)).mpr q.1))]; exact hS) hQ
          exact loop (K 0 1) 0 (by omega) _ hK (fun _ _ _ _ => rfl) hS (fun _ _ => rfl)
        · have hz : left = 0 := Decidable.byContradiction fun q => nI_ne0 (Nat.pos_of_ne_zero q) (by omega) c_31
          refine ga_aload_n 0 dX5_seatFrom_34 rfl ?_
          refine ga_iload_n 2 dX5_seatFrom_35 rfl ?_
          refine ga_iload 5 dX5_seatFrom_36 rfl ?_
          refine gd_V2 km_X5_104 kv_X5_take (c_X5_take (p := p) (by omega)) (sh123 _) rfl rfl (gt_rc0 (by omega)) (Nat.le_of_ble_eq_true rfl) dX5_seatFrom_38 (fun r_38 w_38 q_38 => ?_)
          obtain ⟨rfl, o38, e38a, e38b, e38c⟩ := q_38
          exact gd_vret dX5_seatFrom_41 ⟨rfl, fun a h1 h2 h3 => o38 a h1 h2, by
        have hok2 : A ≤ gained + B := by rw [hz] at hok; simpa [gx_mg] using hok
        rw [show gx_sf (gx_g K V m k9 n9) (K 4) (K 0 2) (K 0 1) A B (j + 1) ρ left arms gained σ = (arms, gx_cut ρ p) by rw [hp]; unfold gx_sf; rw [if_pos hz, if_pos ⟨hla, hok2⟩]]
        exact ⟨gx_Gn_eq kw (fun a h1 h2 => o38 a (by omega) (by omega)) hS.1, by rw [e38b]; exact hS.2.1, e38a, fun q hq => by
          rw [e38c q hq]
          show _ = gx_seat (gx_cut ρ p q)
          unfold gx_cut
          by_cases h9 : q < p
          · rw [if_pos h9, if_pos h9]; exact hT q h9
          · rw [if_neg h9, if_neg h9, gx_seat_0]⟩, fun q hq => by rw [o38 125 (by decide) (by decide)]⟩
      · refine gd_vret dX5_seatFrom_28 ⟨rfl, fun _ _ _ _ => rfl, ?_, fun _ _ => rfl⟩
        first | (rw [gx_sf_arms (j + 1) _ _ _ _ _ ((nI_leI hσ (by omega)).mp c_6)]; exact hS) | (rw [gx_sf_need hgm (j + 1) _ _ _ _ _ (fun q => c_25 ((gx_needN (by omega) (by omega) (by omega)).mpr q))]; exact hS)
