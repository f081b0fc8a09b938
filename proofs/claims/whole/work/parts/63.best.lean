/-! WHO SITS WHERE: the reference's walk over all plans finds what the class's search finds -/
abbrev gx_Rg : Type := Nat × Nat × (Nat → Nat)
def gx_mny (ρ : Nat → Nat) (p : Nat) : Nat := gx_sum (fun q => if ρ q = 0 then 0 else 1) p
def gx_ams (ar ρ : Nat → Nat) (p : Nat) : Nat := gx_sum (fun q => if ρ q = 0 then 0 else ar q) p
/-- a plan is weighed -/
def gx_wg (g : Nat → Nat → Nat) (ar : Nat → Nat) (P A B : Nat) (ρ : Nat → Nat) (σ : gx_Rg) : gx_Rg :=
  if (gx_mny ρ P < σ.1 ∨ gx_mny ρ P = σ.1 ∧ gx_ams ar ρ P < σ.2.1) ∧ A ≤ gx_gn g ρ P + B then (gx_mny ρ P, gx_ams ar ρ P, ρ) else σ
/-- all plans of the last j players, in the document's order -/
def gx_mf (g : Nat → Nat → Nat) (ar : Nat → Nat) (P T A B : Nat) : Nat → (Nat → Nat) → gx_Rg → gx_Rg
  | 0, ρ, σ => gx_wg g ar P A B ρ σ
  | j + 1, ρ, σ => gx_mf g ar P T A B j (gx_rs ρ (P - (j + 1)) 0) (gx_fold (fun t σ => if gx_fr ρ (P - (j + 1)) t then gx_mf g ar P T A B j (gx_rs ρ (P - (j + 1)) (t + 1)) σ else σ) T σ)
def gx_Rel (P s : Nat) (σc : gx_Sg) (σr : gx_Rg) : Prop := (σc.1 = 55 ∧ s < σr.1) ∨ (σr.1 = s ∧ σr.2.1 = σc.1 ∧ σc.1 < 55 ∧ ∀ q, q < P → σr.2.2 q = σc.2 q)
abbrev gx_ext (p : Nat) (ρ ρ' : Nat → Nat) : Prop := ∀ q, q < p → ρ' q = ρ q
theorem gx_rs_eq (ρ : Nat → Nat) (p v : Nat) : gx_rs ρ p v p = v := if_pos rfl
theorem gx_rs_ne (ρ : Nat → Nat) {p q : Nat} (v : Nat) (h : q ≠ p) : gx_rs ρ p v q = ρ q := if_neg h
theorem gx_vp_0 {T p : Nat} {ρ : Nat → Nat} (h : gx_vp T p ρ) : gx_vp T (p + 1) (gx_rs ρ p 0) := by
  refine ⟨fun q hq => ?_, fun i j hi hj e n => ?_⟩
  · by_cases z : q = p
    · rw [z, gx_rs_eq]; exact Nat.zero_le _
    · rw [gx_rs_ne _ _ z]; exact h.1 q (by omega)
  · by_cases z : i = p
    · rw [z, gx_rs_eq] at n; exact absurd rfl n
    · by_cases y : j = p
      · rw [y, gx_rs_eq] at e; exact absurd e n
      · rw [gx_rs_ne _ _ z] at e n
        rw [gx_rs_ne _ _ y] at e
        exact h.2 i j (by omega) (by omega) e n
theorem gx_vp_t {T p t : Nat} {ρ : Nat → Nat} (h : gx_vp T p ρ) (ht : t < T) (hf : gx_fr ρ p t) : gx_vp T (p + 1) (gx_rs ρ p (t + 1)) := by
  refine ⟨fun q hq => ?_, fun i j hi hj e n => ?_⟩
  · by_cases z : q = p
    · rw [z, gx_rs_eq]; exact ht
    · rw [gx_rs_ne _ _ z]; exact h.1 q (by omega)
  · by_cases z : i = p
    · by_cases y : j = p
      · rw [z, y]
      · rw [z, gx_rs_eq, gx_rs_ne _ _ y] at e
        exact absurd e.symm (hf j (by omega))
    · by_cases y : j = p
      · rw [y, gx_rs_eq, gx_rs_ne _ _ z] at e
        exact absurd e (hf i (by omega))
      · rw [gx_rs_ne _ _ z] at e n
        rw [gx_rs_ne _ _ y] at e
        exact h.2 i j (by omega) (by omega) e n
theorem gx_ext_rs {p v : Nat} {ρ ρ' : Nat → Nat} (h : gx_ext (p + 1) (gx_rs ρ p v) ρ') : gx_ext p ρ ρ' ∧ ρ' p = v :=
  ⟨fun q hq => by rw [h q (by omega), gx_rs_ne _ _ (by omega)], by rw [h p (by omega), gx_rs_eq]⟩
theorem gx_sum_mono (f : Nat → Nat) {a : Nat} : ∀ b, a ≤ b → gx_sum f a ≤ gx_sum f b
  | 0, h => by rw [show a = 0 by omega]; exact Nat.le_refl _
  | b + 1, h => by
    by_cases e : a = b + 1
    · rw [e]; exact Nat.le_refl _
    · have := gx_sum_mono f b (show a ≤ b by omega)
      show _ ≤ gx_sum f b + f b
      omega
theorem gx_sum_one1 {f h : Nat → Nat} {i : Nat} (hne : ∀ j, j ≠ i → f j = h j) : ∀ n, i < n → gx_sum f n + h i = gx_sum h n + f i
  | 0, q => by omega
  | n + 1, q => by
    show gx_sum f n + f n + h i = gx_sum h n + h n + f i
    by_cases e : i = n
    · subst e
      rw [gx_sum_congr (f := f) (g := h) i (fun k hk => hne k (by omega))]
      omega
    · have := gx_sum_one1 hne n (by omega)
      rw [hne n (fun z => e z.symm)]
      omega
theorem gx_mny_ext {p : Nat} {ρ ρ' : Nat → Nat} (h : gx_ext p ρ ρ') : gx_mny ρ' p = gx_mny ρ p := gx_sum_congr p (fun q hq => by rw [h q hq])
theorem gx_ams_ext {ar : Nat → Nat} {p : Nat} {ρ ρ' : Nat → Nat} (h : gx_ext p ρ ρ') : gx_ams ar ρ' p = gx_ams ar ρ p := gx_sum_congr p (fun q hq => by rw [h q hq])
theorem gx_gn_ext {g : Nat → Nat → Nat} {p : Nat} {ρ ρ' : Nat → Nat} (h : gx_ext p ρ ρ') : gx_gn g ρ' p = gx_gn g ρ p := gx_sum_congr p (fun q hq => by rw [h q hq])
theorem gx_rs_ext (ρ : Nat → Nat) (p v : Nat) : gx_ext p ρ (gx_rs ρ p v) := fun q hq => gx_rs_ne _ _ (by omega)
theorem gx_mny_0 (ρ : Nat → Nat) (p : Nat) : gx_mny (gx_rs ρ p 0) (p + 1) = gx_mny ρ p := by
  show gx_mny (gx_rs ρ p 0) p + (if gx_rs ρ p 0 p = 0 then 0 else 1) = _
  rw [gx_rs_eq, if_pos rfl, gx_mny_ext (gx_rs_ext ρ p 0)]; rfl
theorem gx_mny_t (ρ : Nat → Nat) (p t : Nat) : gx_mny (gx_rs ρ p (t + 1)) (p + 1) = gx_mny ρ p + 1 := by
  show gx_mny (gx_rs ρ p (t + 1)) p + (if gx_rs ρ p (t + 1) p = 0 then 0 else 1) = _
  rw [gx_rs_eq, if_neg (by omega), gx_mny_ext (gx_rs_ext ρ p (t + 1))]
theorem gx_ams_0 (ar ρ : Nat → Nat) (p : Nat) : gx_ams ar (gx_rs ρ p 0) (p + 1) = gx_ams ar ρ p := by
  show gx_ams ar (gx_rs ρ p 0) p + (if gx_rs ρ p 0 p = 0 then 0 else ar p) = _
  rw [gx_rs_eq, if_pos rfl, gx_ams_ext (gx_rs_ext ρ p 0)]; rfl
theorem gx_ams_t (ar ρ : Nat → Nat) (p t : Nat) : gx_ams ar (gx_rs ρ p (t + 1)) (p + 1) = gx_ams ar ρ p + ar p := by
  show gx_ams ar (gx_rs ρ p (t + 1)) p + (if gx_rs ρ p (t + 1) p = 0 then 0 else ar p) = _
  rw [gx_rs_eq, if_neg (by omega), gx_ams_ext (gx_rs_ext ρ p (t + 1))]
theorem gx_gn_0 (g : Nat → Nat → Nat) (ρ : Nat → Nat) (p : Nat) : gx_gn g (gx_rs ρ p 0) (p + 1) = gx_gn g ρ p := by
  show gx_gn g (gx_rs ρ p 0) p + (if gx_rs ρ p 0 p = 0 then 0 else g p (gx_rs ρ p 0 p - 1)) = _
  rw [gx_rs_eq, if_pos rfl, gx_gn_ext (gx_rs_ext ρ p 0)]; rfl
theorem gx_gn_t (g : Nat → Nat → Nat) (ρ : Nat → Nat) (p t : Nat) : gx_gn g (gx_rs ρ p (t + 1)) (p + 1) = gx_gn g ρ p + g p t := by
  show gx_gn g (gx_rs ρ p (t + 1)) p + (if gx_rs ρ p (t + 1) p = 0 then 0 else g p (gx_rs ρ p (t + 1) p - 1)) = _
  rw [gx_rs_eq, if_neg (by omega), gx_gn_ext (gx_rs_ext ρ p (t + 1)), Nat.add_sub_cancel]
theorem gx_fold_rel {α β : Type} {f : Nat → α → α} {g : Nat → β → β} {I : α → β → Prop} {s : α} {u : β} (h0 : I s u) : ∀ n, (∀ t a b, t < n → I a b → I (f t a) (g t b)) → I (gx_fold f n s) (gx_fold g n u)
  | 0, _ => h0
  | n + 1, h => h n _ _ (by omega) (gx_fold_rel h0 n (fun t a b ht => h t a b (by omega)))
section BEST
variable {g : Nat → Nat → Nat} {ar : Nat → Nat} {P T A B : Nat}
theorem gx_mf_pres {s : Nat} {σc : gx_Sg} : ∀ j ρ (σr : gx_Rg), j ≤ P → gx_vp T (P - j) ρ → (∀ ρ', gx_vp T P ρ' → gx_ext (P - j) ρ ρ' → A ≤ gx_gn g ρ' P + B → s < gx_mny ρ' P) → gx_Rel P s σc σr → gx_Rel P s σc (gx_mf g ar P T A B j ρ σr)
  | 0, ρ, σr, hj, hv, hN, hR => by
    show gx_Rel P s σc (gx_wg g ar P A B ρ σr)
    unfold gx_wg
    by_cases q : (gx_mny ρ P < σr.1 ∨ gx_mny ρ P = σr.1 ∧ gx_ams ar ρ P < σr.2.1) ∧ A ≤ gx_gn g ρ P + B
    · rw [if_pos q]
      have hs := hN ρ hv (fun _ _ => rfl) q.2
      rcases hR with hR | hR
      · exact Or.inl ⟨hR.1, hs⟩
      · have h1 := hR.1
        rcases q.1 with q | q
        · omega
        · have := q.1; omega
    · rw [if_neg q]; exact hR
  | j + 1, ρ, σr, hj, hv, hN, hR => by
    have ep : P - (j + 1) + 1 = P - j := by omega
    show gx_Rel P s σc (gx_mf g ar P T A B j (gx_rs ρ (P - (j + 1)) 0) (gx_fold _ T σr))
    refine gx_mf_pres j _ _ (by omega) (by rw [← ep]; exact gx_vp_0 hv) (fun ρ' v e => hN ρ' v (gx_ext_rs (by rw [ep]; exact e)).1) ?_
    refine gx_fold_inv (I := gx_Rel P s σc) hR T (fun t σ ht hσ => ?_)
    show gx_Rel P s σc (if _ then _ else _)
    by_cases q : gx_fr ρ (P - (j + 1)) t
    · rw [if_pos q]
      exact gx_mf_pres j _ _ (by omega) (by rw [← ep]; exact gx_vp_t hv ht q) (fun ρ' v e => hN ρ' v (gx_ext_rs (by rw [ep]; exact e)).1) hσ
    · rw [if_neg q]; exact hσ
theorem gx_sf_zero {j arms gained : Nat} {ρ : Nat → Nat} {σ : gx_Sg} (hj : j + 1 ≤ P) : gx_sf g ar P T A B (j + 1) ρ 0 arms gained σ = gx_sf g ar P T A B j (gx_rs ρ (P - (j + 1)) 0) 0 arms gained σ := by
  have hc : gx_cut (gx_rs ρ (P - (j + 1)) 0) (P - (j + 1) + 1) = gx_cut ρ (P - (j + 1)) := by
    funext q
    unfold gx_cut
    by_cases h : q < P - (j + 1)
    · rw [if_pos (by omega), if_pos h, gx_rs_ne _ _ (by omega)]
    · rw [if_neg h]
      by_cases e : q = P - (j + 1)
      · rw [if_pos (by omega), e, gx_rs_eq]
      · rw [if_neg (by omega)]
  cases j with
  | zero =>
    have e : P - (0 + 1) + 1 = P := by omega
    rw [e] at hc
    unfold gx_sf
    rw [if_pos rfl, hc]
    by_cases q : arms < σ.1 ∧ A ≤ gained + B
    · rw [if_pos q, if_pos ⟨rfl, q⟩]
    · rw [if_neg q, if_neg (fun z => q z.2)]
  | succ i =>
    have e : P - (i + 1 + 1) + 1 = P - (i + 1) := by omega
    rw [e] at hc
    rw [gx_sf, if_pos rfl, gx_sf, if_pos rfl, hc]
theorem gx_main {s : Nat} (ha : ∀ ρ p, p ≤ P → gx_ams ar ρ p < 55) (hH : ∀ ρ', gx_vp T P ρ' → A ≤ gx_gn g ρ' P + B → s ≤ gx_mny ρ' P ∧ (gx_mny ρ' P = s → ∀ q, q < P → ¬ ρ' q = 0 → 0 < g q (ρ' q - 1))) : ∀ j ρ left (σc : gx_Sg) (σr : gx_Rg), j ≤ P → gx_vp T (P - j) ρ → gx_mny ρ (P - j) + left = s → gx_Rel P s σc σr → gx_Rel P s (gx_sf g ar P T A B j ρ left (gx_ams ar ρ (P - j)) (gx_gn g ρ (P - j)) σc) (gx_mf g ar P T A B j ρ σr)
  | 0, ρ, left, σc, σr, hj, hv, hl, hR => by
    show gx_Rel P s (if left = 0 ∧ gx_ams ar ρ P < σc.1 ∧ A ≤ gx_gn g ρ P + B then (gx_ams ar ρ P, gx_cut ρ P) else σc) (gx_wg g ar P A B ρ σr)
    have hl : gx_mny ρ P + left = s := hl
    unfold gx_wg
    by_cases f : A ≤ gx_gn g ρ P + B
    · have h1 := (hH ρ hv f).1
      have ha1 := ha ρ P (Nat.le_refl _)
      have e0 : left = 0 := by omega
      have em : gx_mny ρ P = s := by omega
      have hq : ∀ q, q < P → ρ q = gx_cut ρ P q := fun q hq => (if_pos hq).symm
      rcases hR with hR | hR
      · have h2 := hR.1
        rw [if_pos ⟨e0, by omega, f⟩, if_pos ⟨Or.inl (by have := hR.2; omega), f⟩]
        exact Or.inr ⟨em, rfl, ha1, hq⟩
      · by_cases la : gx_ams ar ρ P < σc.1
        · rw [if_pos ⟨e0, la, f⟩, if_pos ⟨Or.inr ⟨by rw [em]; exact hR.1.symm, by rw [hR.2.1]; exact la⟩, f⟩]
          exact Or.inr ⟨em, rfl, ha1, hq⟩
        · rw [if_neg (fun z => la z.2.1), if_neg (fun z => by
            have h3 := hR.1
            have h4 := hR.2.1
            rcases z.1 with z | z
            · omega
            · have := z.2; omega)]
          exact Or.inr hR
    · rw [if_neg (fun z => f z.2.2), if_neg (fun z => f z.2)]; exact hR
  | j + 1, ρ, left, σc, σr, hj, hv, hl, hR => by
    have ep : P - (j + 1) + 1 = P - j := by omega
    obtain ⟨p, hp⟩ : ∃ p, p = P - (j + 1) := ⟨_, rfl⟩
    have ih0 : ∀ left' (σc : gx_Sg) (σr : gx_Rg), gx_mny ρ p + left' = s → gx_Rel P s σc σr → gx_Rel P s (gx_sf g ar P T A B j (gx_rs ρ p 0) left' (gx_ams ar ρ p) (gx_gn g ρ p) σc) (gx_mf g ar P T A B j (gx_rs ρ p 0) σr) := by
      intro left' σc σr h1 h2
      have := gx_main ha hH j (gx_rs ρ p 0) left' σc σr (by omega) (by rw [← ep, ← hp]; exact gx_vp_0 (by rw [hp]; exact hv)) (by rw [← ep, ← hp, gx_mny_0]; exact h1) h2
      rw [← ep, ← hp, gx_ams_0, gx_gn_0] at this
      exact this
    rw [← hp] at hl hv ⊢
    by_cases e0 : left = 0
    · subst e0
      rw [gx_sf_zero hj, ← hp]
      show gx_Rel P s _ (gx_mf g ar P T A B j (gx_rs ρ (P - (j + 1)) 0) (gx_fold _ T σr))
      rw [← hp]
      refine ih0 0 _ _ hl ?_
      refine gx_fold_inv (I := gx_Rel P s σc) hR T (fun t σ ht hσ => ?_)
      show gx_Rel P s σc (if _ then _ else _)
      by_cases q : gx_fr ρ p t
      · rw [if_pos q]
        refine gx_mf_pres j _ _ (by omega) (by rw [← ep, ← hp]; exact gx_vp_t hv ht q) (fun ρ' v e _ => ?_) hσ
        rw [← ep, ← hp] at e
        have h1 := gx_mny_ext e
        rw [gx_mny_t] at h1
        have h2 := gx_sum_mono (fun q => if ρ' q = 0 then 0 else 1) (a := p + 1) P (by omega)
        have h3 : gx_mny ρ' (p + 1) ≤ gx_mny ρ' P := h2
        omega
      · rw [if_neg q]; exact hσ
    · rw [gx_sf, if_neg e0]
      show gx_Rel P s _ (gx_mf g ar P T A B j (gx_rs ρ (P - (j + 1)) 0) (gx_fold _ T σr))
      rw [← hp]
      refine ih0 left _ _ hl ?_
      refine gx_fold_rel (I := gx_Rel P s) hR T (fun t a b ht hab => ?_)
      show gx_Rel P s (if _ then _ else _) (if _ then _ else _)
      by_cases q : gx_fr ρ p t
      · rw [if_pos q]
        by_cases q2 : 0 < g p t
        · rw [if_pos ⟨q, q2⟩]
          have := gx_main ha hH j (gx_rs ρ p (t + 1)) (left - 1) a b (by omega) (by rw [← ep, ← hp]; exact gx_vp_t hv ht q) (by rw [← ep, ← hp, gx_mny_t]; omega) hab
          rw [← ep, ← hp, gx_ams_t, gx_gn_t] at this
          exact this
        · rw [if_neg (fun z => q2 z.2)]
          refine gx_mf_pres j _ _ (by omega) (by rw [← ep, ← hp]; exact gx_vp_t hv ht q) (fun ρ' v e f => ?_) hab
          rw [← ep, ← hp] at e
          have h1 := hH ρ' v f
          have h2 := (gx_ext_rs e).2
          rcases Nat.lt_or_ge s (gx_mny ρ' P) with h3 | h3
          · exact h3
          · have h4 := h1.2 (by have := h1.1; omega) p (by omega) (by rw [h2]; omega)
            rw [h2, Nat.add_sub_cancel] at h4
            exact absurd h4 q2
      · rw [if_neg q, if_neg (fun z => q z.1)]; exact hab
theorem gx_mf_le : ∀ j ρ (σ : gx_Rg), (gx_mf g ar P T A B j ρ σ).1 ≤ σ.1
  | 0, ρ, σ => by
    show (gx_wg g ar P A B ρ σ).1 ≤ σ.1
    unfold gx_wg
    split
    · rename_i q
      show gx_mny ρ P ≤ σ.1
      rcases q.1 with q | q
      · omega
      · have := q.1; omega
    · exact Nat.le_refl _
  | j + 1, ρ, σ => by
    refine Nat.le_trans (gx_mf_le j _ _) ?_
    refine gx_fold_inv (I := fun s : gx_Rg => s.1 ≤ σ.1) (Nat.le_refl _) T (fun t s _ hs => ?_)
    show (if _ then _ else _ : gx_Rg).1 ≤ _
    split
    · exact Nat.le_trans (gx_mf_le j _ _) hs
    · exact hs
theorem gx_fold_at {f : Nat → gx_Rg → gx_Rg} {s : gx_Rg} {t : Nat} : ∀ n, t < n → (∀ u σ, u < n → (f u σ).1 ≤ σ.1) → (gx_fold f n s).1 ≤ (f t (gx_fold f t s)).1
  | 0, h, _ => by omega
  | n + 1, h, hf => by
    show (f n (gx_fold f n s)).1 ≤ _
    by_cases e : t = n
    · rw [e]; exact Nat.le_refl _
    · exact Nat.le_trans (hf n _ (by omega)) (gx_fold_at n (by omega) (fun u σ hu => hf u σ (by omega)))
theorem gx_mf_min {ρ' : Nat → Nat} (hv' : gx_vp T P ρ') (hf : A ≤ gx_gn g ρ' P + B) : ∀ j ρ (σ : gx_Rg), j ≤ P → gx_ext (P - j) ρ ρ' → (gx_mf g ar P T A B j ρ σ).1 ≤ gx_mny ρ' P
  | 0, ρ, σ, hj, he => by
    have he : gx_ext P ρ ρ' := he
    show (gx_wg g ar P A B ρ σ).1 ≤ _
    unfold gx_wg
    rw [gx_mny_ext he]
    rw [gx_gn_ext he] at hf
    split
    · exact Nat.le_refl _
    · rename_i q
      rcases Nat.lt_or_ge (gx_mny ρ P) σ.1 with h | h
      · exact absurd ⟨Or.inl h, hf⟩ q
      · exact h
  | j + 1, ρ, σ, hj, he => by
    have ep : P - (j + 1) + 1 = P - j := by omega
    obtain ⟨p, hp⟩ : ∃ p, p = P - (j + 1) := ⟨_, rfl⟩
    show (gx_mf g ar P T A B j (gx_rs ρ (P - (j + 1)) 0) (gx_fold (fun t σ => if gx_fr ρ (P - (j + 1)) t then gx_mf g ar P T A B j (gx_rs ρ (P - (j + 1)) (t + 1)) σ else σ) T σ)).1 ≤ _
    rw [← hp] at he ⊢
    have hex : ∀ v, ρ' p = v → gx_ext (P - j) (gx_rs ρ p v) ρ' := fun v hv q hq => by
      by_cases e : q = p
      · rw [e, gx_rs_eq, hv]
      · rw [gx_rs_ne _ _ e]; exact he q (by omega)
    by_cases z : ρ' p = 0
    · exact gx_mf_min hv' hf j _ _ (by omega) (hex 0 z)
    · refine Nat.le_trans (gx_mf_le j _ _) ?_
      obtain ⟨t, ht⟩ : ∃ t, ρ' p = t + 1 := ⟨ρ' p - 1, by omega⟩
      have htT : t < T := by have := hv'.1 p (by omega); omega
      refine Nat.le_trans (gx_fold_at (t := t) T htT (fun u σ _ => ?_)) ?_
      · show (if _ then _ else _ : gx_Rg).1 ≤ _
        split
        · exact gx_mf_le j _ _
        · exact Nat.le_refl _
      · rw [if_pos (fun q hq e => by
          have h1 := hv'.2 q p (by omega) (by omega) (by rw [he q hq, e, ht]) (by rw [he q hq, e]; omega)
          omega)]
        exact gx_mf_min hv' hf j _ _ (by omega) (hex (t + 1) ht)
theorem gx_mf_none : ∀ j ρ (σ : gx_Rg), j ≤ P → gx_vp T (P - j) ρ → (∀ ρ', gx_vp T P ρ' → gx_ext (P - j) ρ ρ' → ¬ A ≤ gx_gn g ρ' P + B) → gx_mf g ar P T A B j ρ σ = σ
  | 0, ρ, σ, hj, hv, hN => if_neg (fun q => hN ρ hv (fun _ _ => rfl) q.2)
  | j + 1, ρ, σ, hj, hv, hN => by
    have ep : P - (j + 1) + 1 = P - j := by omega
    show gx_mf g ar P T A B j (gx_rs ρ (P - (j + 1)) 0) (gx_fold _ T σ) = σ
    rw [gx_mf_none j _ _ (by omega) (by rw [← ep]; exact gx_vp_0 hv) (fun ρ' v e => hN ρ' v (gx_ext_rs (by rw [ep]; exact e)).1)]
    refine gx_fold_id T (fun t ht => ?_)
    show (if _ then _ else _) = σ
    by_cases q : gx_fr ρ (P - (j + 1)) t
    · rw [if_pos q]
      exact gx_mf_none j _ _ (by omega) (by rw [← ep]; exact gx_vp_t hv ht q) (fun ρ' v e => hN ρ' v (gx_ext_rs (by rw [ep]; exact e)).1)
    · rw [if_neg q]
theorem gx_mny_P (ρ : Nat → Nat) (p : Nat) : gx_mny ρ p ≤ p := by
  have := gx_sum_le (f := fun q => if ρ q = 0 then 0 else 1) (b := 1) p (fun k _ => by show (if _ then _ else _) ≤ 1; split <;> omega)
  unfold gx_mny
  omega
theorem gx_mny_T {ρ : Nat → Nat} {T P : Nat} (h : gx_vp T P ρ) : gx_mny ρ P ≤ T := by
  have h1 : gx_mny ρ P = gx_sum (fun q => gx_sum (fun t => if ρ q = t + 1 then 1 else 0) T) P := by
    refine gx_sum_congr P (fun q hq => ?_)
    by_cases z : ρ q = 0
    · rw [if_pos z]
      exact (gx_sum_none _ (fun t _ => if_neg (by omega))).symm
    · have hq1 := h.1 q hq
      rw [if_neg z, gx_sum_at (i := ρ q - 1) T (by omega) (fun j hj hne => if_neg (by omega)), if_pos (by omega)]
  rw [h1, gx_sum_swap (fun q t => if ρ q = t + 1 then 1 else 0)]
  have h2 := gx_sum_le (f := fun t => gx_sum (fun q => if ρ q = t + 1 then 1 else 0) P) (b := 1) T (fun t ht => by
    show gx_sum _ P ≤ 1
    by_cases e : ∃ q, q < P ∧ ρ q = t + 1
    · obtain ⟨q, hq, e⟩ := e
      rw [gx_sum_at (i := q) P hq (fun j hj hne => if_neg (fun z => hne (h.2 j q hj hq (by rw [z, e]) (by rw [z]; omega)))), if_pos e]
      exact Nat.le_refl _
    · rw [gx_sum_none P (fun j hj => if_neg (fun z => e ⟨j, hj, z⟩))]
      exact Nat.zero_le _)
  omega
/-- who gains nothing may as well rest -/
theorem gx_drop {ρ : Nat → Nat} {q : Nat} (h : gx_vp T P ρ) (hq : q < P) (hz : ¬ ρ q = 0) (hg : g q (ρ q - 1) = 0) : gx_vp T P (gx_rs ρ q 0) ∧ gx_gn g (gx_rs ρ q 0) P = gx_gn g ρ P ∧ gx_mny (gx_rs ρ q 0) P + 1 = gx_mny ρ P := by
  refine ⟨⟨fun i hi => ?_, fun i j hi hj e n => ?_⟩, ?_, ?_⟩
  · by_cases z : i = q
    · rw [z, gx_rs_eq]; exact Nat.zero_le _
    · rw [gx_rs_ne _ _ z]; exact h.1 i hi
  · by_cases z : i = q
    · rw [z, gx_rs_eq] at n; exact absurd rfl n
    · by_cases y : j = q
      · rw [y, gx_rs_eq] at e; exact absurd e n
      · rw [gx_rs_ne _ _ z] at e n
        rw [gx_rs_ne _ _ y] at e
        exact h.2 i j hi hj e n
  · have h1 := gx_sum_one1 (f := fun i => if gx_rs ρ q 0 i = 0 then 0 else g i (gx_rs ρ q 0 i - 1)) (h := fun i => if ρ i = 0 then 0 else g i (ρ i - 1)) (i := q) (fun j hj => by
      show (if gx_rs ρ q 0 j = 0 then 0 else g j (gx_rs ρ q 0 j - 1)) = if ρ j = 0 then 0 else g j (ρ j - 1)
      rw [gx_rs_ne _ _ hj]) P hq
    rw [if_pos (gx_rs_eq ρ q 0), if_neg hz, hg] at h1
    exact h1
  · have h1 := gx_sum_one1 (f := fun i => if gx_rs ρ q 0 i = 0 then 0 else 1) (h := fun i => if ρ i = 0 then 0 else 1) (i := q) (fun j hj => by
      show (if gx_rs ρ q 0 j = 0 then 0 else 1) = if ρ j = 0 then 0 else 1
      rw [gx_rs_ne _ _ hj]) P hq
    rw [if_pos (gx_rs_eq ρ q 0), if_neg hz] at h1
    exact h1
theorem gx_hH {s : Nat} (hN : ∀ ρ', gx_vp T P ρ' → A ≤ gx_gn g ρ' P + B → s ≤ gx_mny ρ' P) : ∀ ρ', gx_vp T P ρ' → A ≤ gx_gn g ρ' P + B → s ≤ gx_mny ρ' P ∧ (gx_mny ρ' P = s → ∀ q, q < P → ¬ ρ' q = 0 → 0 < g q (ρ' q - 1)) := by
  intro ρ' hv hf
  refine ⟨hN ρ' hv hf, fun e q hq hz => ?_⟩
  rcases Nat.eq_zero_or_pos (g q (ρ' q - 1)) with h | h
  · obtain ⟨h1, h2, h3⟩ := gx_drop hv hq hz h
    have := hN _ h1 (by rw [h2]; exact hf)
    omega
  · exact h
theorem gx_rel0 {s : Nat} {b b2 : Nat → Nat} (hs : s < 100000000) : gx_Rel P s (55, b) (100000000, 100000000, b2) := Or.inl ⟨rfl, hs⟩
theorem gx_vp0 : gx_vp T (P - P) (fun _ => 0) := ⟨fun _ _ => Nat.zero_le _, fun _ _ _ _ _ n => absurd rfl n⟩
theorem gx_main0 {s : Nat} {b b2 : Nat → Nat} (hs : s < 100000000) (ha : ∀ ρ p, p ≤ P → gx_ams ar ρ p < 55) (hN : ∀ ρ', gx_vp T P ρ' → A ≤ gx_gn g ρ' P + B → s ≤ gx_mny ρ' P) : gx_Rel P s (gx_sf g ar P T A B P (fun _ => 0) s 0 0 (55, b)) (gx_mf g ar P T A B P (fun _ => 0) (100000000, 100000000, b2)) := by
  have h := gx_main ha (gx_hH hN) P (fun _ => 0) s (55, b) (100000000, 100000000, b2) (Nat.le_refl _) gx_vp0 (by rw [Nat.sub_self]; exact Nat.zero_add s) (gx_rel0 hs)
  rw [Nat.sub_self] at h
  exact h
theorem gx_least {b b2 : Nat → Nat} (ha : ∀ ρ p, p ≤ P → gx_ams ar ρ p < 55) : ∀ s, s < 100000000 → (∀ s', s' < s → (gx_sf g ar P T A B P (fun _ => 0) s' 0 0 (55, b)).1 = 55) → ∀ ρ', gx_vp T P ρ' → A ≤ gx_gn g ρ' P + B → s ≤ gx_mny ρ' P
  | 0, _, _, _, _, _ => Nat.zero_le _
  | s + 1, hs, h, ρ', hv, hf => by
    have hN := gx_least (b2 := b2) ha s (by omega) (fun s' q => h s' (by omega))
    have hR := gx_main0 (b := b) (b2 := b2) (by omega) ha hN
    have hm := gx_mf_min (ar := ar) hv hf P (fun _ => 0) (100000000, 100000000, b2) (Nat.le_refl _) (fun q hq => by omega)
    rcases hR with hR | hR
    · have := hR.2; omega
    · have h1 := hR.2.2.1
      rw [h s (by omega)] at h1
      exact absurd h1 (by decide)
theorem gx_seats_none {b b2 : Nat → Nat} (hP : P ≤ 6) (ha : ∀ ρ p, p ≤ P → gx_ams ar ρ p < 55) (h : ∀ s, s ≤ min P T → (gx_sf g ar P T A B P (fun _ => 0) s 0 0 (55, b)).1 = 55) : gx_mf g ar P T A B P (fun _ => 0) (100000000, 100000000, b2) = (100000000, 100000000, b2) := by
  have hN := gx_least (b2 := b2) ha (min P T + 1) (by omega) (fun s' q => h s' (by omega))
  refine gx_mf_none P _ _ (Nat.le_refl _) gx_vp0 (fun ρ' v _ f => ?_)
  have h1 := hN ρ' v f
  have h2 := gx_mny_T v
  have h3 := gx_mny_P ρ' P
  omega
theorem gx_seats_some {b b2 : Nat → Nat} {s : Nat} (hs : s < 100000000) (ha : ∀ ρ p, p ≤ P → gx_ams ar ρ p < 55) (h : ∀ s', s' < s → (gx_sf g ar P T A B P (fun _ => 0) s' 0 0 (55, b)).1 = 55) (h1 : ¬ (gx_sf g ar P T A B P (fun _ => 0) s 0 0 (55, b)).1 = 55) : (gx_mf g ar P T A B P (fun _ => 0) (100000000, 100000000, b2)).1 = s ∧ ∀ q, q < P → (gx_mf g ar P T A B P (fun _ => 0) (100000000, 100000000, b2)).2.2 q = (gx_sf g ar P T A B P (fun _ => 0) s 0 0 (55, b)).2 q := by
  have hN := gx_least (b2 := b2) ha s hs h
  rcases gx_main0 (b := b) (b2 := b2) hs ha hN with hR | hR
  · exact absurd hR.1 h1
  · exact ⟨hR.1, hR.2.2.2⟩
end BEST
