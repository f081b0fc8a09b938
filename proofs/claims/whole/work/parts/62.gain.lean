/-! WHO SITS WHERE: the sea behind n hours is that of rest and what each who sits gains -/
theorem gx_wp_3 {K U : gx_K} {m : Int32} : ∀ q p, gx_wp K U m q 3 p = if p < q then (if gx_act U m p then min 99 (U 3 p + 1) else U 3 p - 2) else U 3 p
  | 0, p => by rw [if_neg (by omega)]; rfl
  | q + 1, p => by
    by_cases e : p = q
    · subst e
      rw [if_pos (by omega)]
      have ih := gx_wp_3 (K := K) (U := U) (m := m) p p
      rw [if_neg (by omega)] at ih
      by_cases a : gx_act U m p
      · obtain ⟨t, ht⟩ : ∃ t, U 2 p = t + 1 := ⟨U 2 p - 1, by have := a.1; omega⟩
        rw [gx_wp_t a ht, gx_up_eq, ih, if_pos a]
      · rw [gx_wp_f a, gx_up_eq, ih, if_neg a]
    · have ih := gx_wp_3 (K := K) (U := U) (m := m) q p
      have e2 : gx_wp K U m (q + 1) 3 p = gx_wp K U m q 3 p := by
        by_cases a : gx_act U m q
        · obtain ⟨t, ht⟩ : ∃ t, U 2 q = t + 1 := ⟨U 2 q - 1, by have := a.1; omega⟩
          rw [gx_wp_t a ht, gx_up_col e, gx_up_row (by decide)]
        · rw [gx_wp_f a, gx_up_col e]
      rw [e2, ih]
      by_cases l : p < q
      · rw [if_pos l, if_pos (show p < q + 1 by omega)]
      · rw [if_neg l, if_neg (show ¬ p < q + 1 by omega)]
/-- someone awake among the first q holds t -/
abbrev gx_held (U : gx_K) (m : Int32) (q t : Nat) : Prop := ∃ p, p < q ∧ gx_act U m p ∧ U 2 p = t + 1
theorem gx_wp_1n {K U : gx_K} {m : Int32} {t : Nat} : ∀ q, ¬ gx_held U m q t → gx_wp K U m q 1 t = U 1 t
  | 0, _ => rfl
  | q + 1, h => by
    have ih := gx_wp_1n (K := K) q (fun ⟨p, h1, h2⟩ => h ⟨p, by omega, h2⟩)
    by_cases a : gx_act U m q
    · obtain ⟨u, hu⟩ : ∃ u, U 2 q = u + 1 := ⟨U 2 q - 1, by have := a.1; omega⟩
      have hne : t ≠ u := fun e => h ⟨q, by omega, a, by rw [hu, e]⟩
      rw [gx_wp_t a hu, gx_up_row (by decide), gx_up_col hne, ih]
    · rw [gx_wp_f a, gx_up_row (by decide), ih]
theorem gx_wp_1y {K U : gx_K} {m : Int32} {p t : Nat} (ha : gx_act U m p) (ht : U 2 p = t + 1) (hu : ∀ p', p' < K 0 2 → U 2 p' = t + 1 → p' = p) : ∀ q, p < q → q ≤ K 0 2 → gx_wp K U m q 1 t = gx_more (U 1 t) (K 4 p) (U 3 p)
  | 0, h, _ => by omega
  | q + 1, h, hq => by
    by_cases e : p = q
    · subst e
      rw [gx_wp_t ha ht, gx_up_row (by decide), gx_up_eq, gx_wp_1n p (fun ⟨p', h1, h2, h3⟩ => by have := hu p' (by omega) h3; omega), gx_wp_3 p p, if_neg (by omega)]
    · have ih := gx_wp_1y ha ht hu q (by omega) (by omega)
      by_cases a : gx_act U m q
      · obtain ⟨u, hu2⟩ : ∃ u, U 2 q = u + 1 := ⟨U 2 q - 1, by have := a.1; omega⟩
        have hne : t ≠ u := fun z => by have := hu q (by omega) (by rw [hu2, z]); omega
        rw [gx_wp_t a hu2, gx_up_row (by decide), gx_up_col hne, ih]
      · rw [gx_wp_f a, gx_up_row (by decide), ih]
theorem gx_hp_bit {U : gx_K} {m : Int32} {t T : Nat} (hT : T ≤ 6) (ht : t < T) : ∀ q, (∀ p, p < q → U 2 p ≤ T) → ((gx_hp U m q).toBitVec.getLsbD t = true ↔ gx_held U m q t)
  | 0, _ => by
    constructor
    · intro h
      have : (nI 0).toBitVec.getLsbD t = false := by rw [nI_0]; simp
      rw [show gx_hp U m 0 = nI 0 from rfl, this] at h
      exact absurd h (by decide)
    · rintro ⟨p, h, _⟩; omega
  | q + 1, hb => by
    have ih := gx_hp_bit (m := m) hT ht q (fun p hp => hb p (by omega))
    by_cases a : gx_act U m q
    · obtain ⟨u, hu⟩ : ∃ u, U 2 q = u + 1 := ⟨U 2 q - 1, by have := a.1; omega⟩
      have hu6 : u < 32 := by have := hb q (by omega); omega
      rw [gx_hp_t a hu, gx_bit_or, gx_bit_one hu6, Bool.or_eq_true, ih]
      constructor
      · rintro (⟨p, h1, h2⟩ | h)
        · exact ⟨p, by omega, h2⟩
        · exact ⟨q, by omega, a, by rw [hu, of_decide_eq_true h]⟩
      · rintro ⟨p, h1, h2, h3⟩
        by_cases e : p = q
        · right
          subst e
          exact decide_eq_true (by omega)
        · left
          exact ⟨p, by omega, h2, h3⟩
    · rw [gx_hp_f a, ih]
      constructor
      · rintro ⟨p, h1, h2⟩; exact ⟨p, by omega, h2⟩
      · rintro ⟨p, h1, h2, h3⟩
        by_cases e : p = q
        · subst e; exact absurd h2 a
        · exact ⟨p, by omega, h2, h3⟩
theorem gx_wt_1 {U : gx_K} {h : Int32} {t : Nat} : ∀ n, gx_wt U h n 1 t = if t < n ∧ (h >>> (nI t &&& 31)) &&& nI 1 = 0 then U 1 t - 3 else U 1 t
  | 0 => by rw [if_neg (by omega)]; rfl
  | n + 1 => by
    have ih := gx_wt_1 (U := U) (h := h) (t := t) n
    by_cases e : t = n
    · subst e
      rw [if_neg (by omega)] at ih
      by_cases q : (h >>> (nI t &&& 31)) &&& nI 1 = 0
      · rw [gx_wt_t q, gx_up_eq, ih, if_pos ⟨by omega, q⟩]
      · rw [gx_wt_f q, ih, if_neg (fun z => q z.2)]
    · have e2 : gx_wt U h (n + 1) 1 t = gx_wt U h n 1 t := by
        by_cases q : (h >>> (nI n &&& 31)) &&& nI 1 = 0
        · rw [gx_wt_t q, gx_up_col e]
        · rw [gx_wt_f q]
      rw [e2, ih]
      by_cases q : t < n ∧ (h >>> (nI t &&& 31)) &&& nI 1 = 0
      · rw [if_pos q, if_pos ⟨by omega, q.2⟩]
      · rw [if_neg q, if_neg (fun z => q ⟨by omega, z.2⟩)]
theorem gx_wind_3 {K U : gx_K} {m : Int32} {p : Nat} (hp : p < K 0 2) : gx_wind K U m 3 p = if gx_act U m p then min 99 (U 3 p + 1) else U 3 p - 2 := by
  unfold gx_wind
  rw [gx_wt_row (by decide), gx_wp_3, if_pos hp]
theorem gx_wind_1y {K U : gx_K} {m : Int32} {p t : Nat} (kw : gx_KW K) (vw : gx_VW K U) (vd : gx_Vd K U) (ht6 : t < K 0 1) (hp : p < K 0 2) (ha : gx_act U m p) (ht : U 2 p = t + 1) : gx_wind K U m 1 t = gx_more (U 1 t) (K 4 p) (U 3 p) := by
  have k1 := kw.2.1
  have hu : ∀ p', p' < K 0 2 → U 2 p' = t + 1 → p' = p := fun p' h1 h2 => vd p' p h1 hp (by rw [h2, ht]) (by rw [h2]; omega)
  unfold gx_wind
  rw [gx_wt_1, if_neg, gx_wp_1y ha ht hu (K 0 2) hp (Nat.le_refl _)]
  rintro ⟨-, q⟩
  rw [gx_bit0 _ (by omega)] at q
  have := (gx_hp_bit (m := m) (t := t) k1 ht6 (K 0 2) (fun p hp => vw.2.2.1 p hp)).mpr ⟨p, hp, ha, ht⟩
  rw [this] at q
  exact absurd q (by decide)
theorem gx_wind_1n {K U : gx_K} {m : Int32} {t : Nat} (kw : gx_KW K) (vw : gx_VW K U) (ht6 : t < K 0 1) (h : ¬ gx_held U m (K 0 2) t) : gx_wind K U m 1 t = U 1 t - 3 := by
  have k1 := kw.2.1
  unfold gx_wind
  rw [gx_wt_1, if_pos, gx_wp_1n _ h]
  refine ⟨ht6, ?_⟩
  rw [gx_bit0 _ (by omega)]
  cases q : (gx_hp U m (K 0 2)).toBitVec.getLsbD t
  · rfl
  · exact absurd ((gx_hp_bit (m := m) (t := t) k1 ht6 (K 0 2) (fun p hp => vw.2.2.1 p hp)).mp q) h
theorem gx_wn_row {K V : gx_K} {m : Int32} {i : Nat} (h1 : i ≠ 1) (h3 : i ≠ 3) (j : Nat) : ∀ n, gx_wn K V m n i j = V i j
  | 0 => rfl
  | n + 1 => by
    show gx_wind K (gx_wn K V m n) m i j = _
    rw [gx_wind_row h1 h3, gx_wn_row h1 h3 j n]
theorem gx_wn_act {K V : gx_K} {m : Int32} {p : Nat} (n : Nat) : gx_act (gx_wn K V m n) m p ↔ gx_act V m p := by
  show (¬ gx_wn K V m n 2 p = 0 ∧ _) ↔ (¬ V 2 p = 0 ∧ _)
  rw [gx_wn_row (by decide) (by decide)]
theorem gx_wn_Vd {K V : gx_K} {m : Int32} (vd : gx_Vd K V) (n : Nat) : gx_Vd K (gx_wn K V m n) := gx_Vd_of (fun j => gx_wn_row (by decide) (by decide) j n) vd
theorem gx_wn_3 {K V : gx_K} {m : Int32} {p : Nat} (vw : gx_VW K V) (hp : p < K 0 2) (ha : gx_act V m p) : ∀ n, gx_wn K V m n 3 p = min 99 (V 3 p + n)
  | 0 => by
    have := vw.2.2.2.1 p hp
    show V 3 p = _
    rw [Nat.min_eq_right (by omega)]
    rfl
  | n + 1 => by
    show gx_wind K (gx_wn K V m n) m 3 p = _
    rw [gx_wind_3 hp, if_pos ((gx_wn_act n).mpr ha), gx_wn_3 vw hp ha n]
    omega
theorem gx_wn_1y {K V : gx_K} {m : Int32} {p t : Nat} (kw : gx_KW K) (vw : gx_VW K V) (vd : gx_Vd K V) (ht6 : t < K 0 1) (hp : p < K 0 2) (ha : gx_act V m p) (ht : V 2 p = t + 1) : ∀ n, gx_wn K V m n 1 t = gx_tn K V p t n
  | 0 => rfl
  | n + 1 => by
    show gx_wind K (gx_wn K V m n) m 1 t = gx_more (gx_tn K V p t n) (K 4 p) (min 99 (V 3 p + n))
    rw [gx_wind_1y kw (gx_wn_VW vw n) (gx_wn_Vd vd n) ht6 hp ((gx_wn_act n).mpr ha) (by rw [gx_wn_row (by decide) (by decide)]; exact ht), gx_wn_1y kw vw vd ht6 hp ha ht n, gx_wn_3 vw hp ha n]
theorem gx_wn_1n {K V : gx_K} {m : Int32} {t : Nat} (kw : gx_KW K) (vw : gx_VW K V) (ht6 : t < K 0 1) (h : ¬ gx_held V m (K 0 2) t) : ∀ n, gx_wn K V m n 1 t = gx_ld (V 1 t) n
  | 0 => rfl
  | n + 1 => by
    show gx_wind K (gx_wn K V m n) m 1 t = V 1 t - 3 * (n + 1)
    rw [gx_wind_1n kw (gx_wn_VW vw n) ht6 (fun ⟨p, h1, h2, h3⟩ => h ⟨p, h1, (gx_wn_act n).mp h2, by rw [gx_wn_row (by decide) (by decide)] at h3; exact h3⟩), gx_wn_1n kw vw ht6 h n]
    unfold gx_ld
    omega
/-! sums -/
theorem gx_sum_add (f g : Nat → Nat) : ∀ n, gx_sum (fun k => f k + g k) n = gx_sum f n + gx_sum g n
  | 0 => rfl
  | n + 1 => by
    show gx_sum (fun k => f k + g k) n + (f n + g n) = (gx_sum f n + f n) + (gx_sum g n + g n)
    rw [gx_sum_add f g n]; omega
theorem gx_sum_zero : ∀ n, gx_sum (fun _ => 0) n = 0
  | 0 => rfl
  | n + 1 => by
    show gx_sum (fun _ => 0) n + 0 = 0
    rw [gx_sum_zero n]
theorem gx_sum_swap (f : Nat → Nat → Nat) (a : Nat) : ∀ n, gx_sum (fun i => gx_sum (fun j => f i j) a) n = gx_sum (fun j => gx_sum (fun i => f i j) n) a
  | 0 => (gx_sum_zero a).symm
  | n + 1 => by
    show gx_sum (fun i => gx_sum (fun j => f i j) a) n + gx_sum (fun j => f n j) a = gx_sum (fun j => gx_sum (fun i => f i j) n + f n j) a
    rw [gx_sum_swap f a n, gx_sum_add (fun j => gx_sum (fun i => f i j) n) (fun j => f n j)]
theorem gx_sum_one {f : Nat → Nat} {i : Nat} (h : ∀ j, j ≠ i → f j = 0) : ∀ n, gx_sum f n = if i < n then f i else 0
  | 0 => by rw [if_neg (by omega)]; rfl
  | n + 1 => by
    show gx_sum f n + f n = _
    rw [gx_sum_one h n]
    by_cases e : i = n
    · subst e; rw [if_neg (by omega), if_pos (by omega)]; omega
    · rw [h n (fun q => e q.symm)]
      by_cases l : i < n
      · rw [if_pos l, if_pos (by omega)]; rfl
      · rw [if_neg l, if_neg (by omega)]
theorem gx_sum_none {f : Nat → Nat} : ∀ n, (∀ j, j < n → f j = 0) → gx_sum f n = 0
  | 0, _ => rfl
  | n + 1, h => by
    show gx_sum f n + f n = 0
    rw [gx_sum_none n (fun j hj => h j (by omega)), h n (by omega)]
theorem gx_sum_at {f : Nat → Nat} {i : Nat} : ∀ n, i < n → (∀ j, j < n → j ≠ i → f j = 0) → gx_sum f n = f i
  | 0, h, _ => by omega
  | n + 1, h, hz => by
    show gx_sum f n + f n = f i
    by_cases e : i = n
    · subst e; rw [gx_sum_none i (fun j hj => hz j (by omega) (by omega))]; omega
    · rw [gx_sum_at n (by omega) (fun j hj => hz j (by omega)), hz n (by omega) (fun q => e q.symm)]; rfl
/-- the state in which the players sit as told -/
def gx_pv (K V : gx_K) (ρ : Nat → Nat) : gx_K := fun i j => if i = 2 ∧ j < K 0 2 then ρ j else V i j
/-- a plan's first p players: nobody beyond the towers, nobody twice -/
def gx_vp (T p : Nat) (ρ : Nat → Nat) : Prop := (∀ q, q < p → ρ q ≤ T) ∧ ∀ i j, i < p → j < p → ρ i = ρ j → ρ i ≠ 0 → i = j
theorem gx_pv_2 {K V : gx_K} {ρ : Nat → Nat} {j : Nat} (h : j < K 0 2) : gx_pv K V ρ 2 j = ρ j := if_pos ⟨rfl, h⟩
theorem gx_pv_n {K V : gx_K} {ρ : Nat → Nat} {i j : Nat} (h : i ≠ 2) : gx_pv K V ρ i j = V i j := if_neg (fun q => h q.1)
theorem gx_pv_VW {K V : gx_K} {ρ : Nat → Nat} (vw : gx_VW K V) (h : gx_vp (K 0 1) (K 0 2) ρ) : gx_VW K (gx_pv K V ρ) := ⟨Nat.zero_le _, fun j hj => by rw [gx_pv_n (by decide)]; exact vw.2.1 j hj, fun j hj => by rw [gx_pv_2 hj]; exact h.1 j hj, fun j hj => by rw [gx_pv_n (by decide)]; exact vw.2.2.2.1 j hj, fun j hj => by rw [gx_pv_n (by decide)]; exact vw.2.2.2.2 j hj⟩
theorem gx_pv_Vd {K V : gx_K} {ρ : Nat → Nat} (h : gx_vp (K 0 1) (K 0 2) ρ) : gx_Vd K (gx_pv K V ρ) := fun i j hi hj q1 q2 => h.2 i j hi hj ((gx_pv_2 (V := V) hi).symm.trans (q1.trans (gx_pv_2 (V := V) hj))) (fun z => q2 ((gx_pv_2 (V := V) hi).trans z))
theorem gx_pv_tn {K V : gx_K} {ρ : Nat → Nat} {p t : Nat} : ∀ n, gx_tn K (gx_pv K V ρ) p t n = gx_tn K V p t n
  | 0 => gx_pv_n (by decide)
  | n + 1 => by
    show gx_more (gx_tn K (gx_pv K V ρ) p t n) (K 4 p) (min 99 (gx_pv K V ρ 3 p + n)) = gx_more (gx_tn K V p t n) (K 4 p) (min 99 (V 3 p + n))
    rw [gx_pv_tn n, gx_pv_n (by decide)]
/-- what those who sit gain -/
def gx_gn (g : Nat → Nat → Nat) (ρ : Nat → Nat) (p : Nat) : Nat := gx_sum (fun q => if ρ q = 0 then 0 else g q (ρ q - 1)) p
theorem gx_sea_plan {K V : gx_K} {m : Int32} {ρ : Nat → Nat} (kw : gx_KW K) (vw : gx_VW K V) (h : gx_vp (K 0 1) (K 0 2) ρ) (k n : Nat) : gx_sea K (gx_wn K (gx_pv K V ρ) m n) k = gx_rest K V k n + gx_gn (gx_g K V m k n) ρ (K 0 2) := by
  have pw := gx_pv_VW vw h
  have pd := gx_pv_Vd (V := V) h
  have key : ∀ t, t < K 0 1 → gx_bears (gx_wn K (gx_pv K V ρ) m n 1 t) (K 3 t) (K 2 t) k = gx_bears (gx_ld (V 1 t) n) (K 3 t) (K 2 t) k + gx_sum (fun q => if ρ q = t + 1 then gx_g K V m k n q t else 0) (K 0 2) := by
    intro t ht
    have hv1 := vw.2.1 t ht
    by_cases e : ∃ p, p < K 0 2 ∧ ρ p = t + 1
    · obtain ⟨p, hp, hpt⟩ := e
      rw [gx_sum_at (i := p) (K 0 2) hp (fun j hj hne => if_neg (fun z => hne (h.2 j p hj hp (by rw [z, hpt]) (by rw [z]; omega)))), if_pos hpt]
      have hmono := gx_bears_mono (gx_wb_b (K := K) (m := m) (p := p) hv1 n).1 (K 3 t) (K 2 t) k
      have hw : gx_wn K (gx_pv K V ρ) m n 1 t = gx_wb K V m p t n := by
        unfold gx_wb
        by_cases a : gx_slpB m (nI p) = 0
        · rw [if_pos a, gx_wn_1y kw pw pd ht hp ⟨by rw [gx_pv_2 hp, hpt]; omega, a⟩ (by rw [gx_pv_2 hp]; exact hpt) n, gx_pv_tn]
        · rw [if_neg a, gx_wn_1n kw pw ht (fun ⟨p', h1, h2, h3⟩ => by
            rw [gx_pv_2 h1] at h3
            have := h.2 p' p h1 hp (by rw [h3, hpt]) (by rw [h3]; omega)
            subst this
            exact a h2.2) n, gx_pv_n (by decide)]
      rw [hw]
      unfold gx_g
      omega
    · rw [gx_sum_none (K 0 2) (fun j hj => if_neg (fun z => e ⟨j, hj, z⟩)), gx_wn_1n kw pw ht (fun ⟨p', h1, h2, h3⟩ => by
        rw [gx_pv_2 h1] at h3
        exact e ⟨p', h1, h3⟩) n, gx_pv_n (by decide)]
      rfl
  unfold gx_sea gx_rest gx_gn
  rw [gx_sum_congr (K 0 1) key, gx_sum_add (fun t => gx_bears (gx_ld (V 1 t) n) (K 3 t) (K 2 t) k) (fun t => gx_sum (fun q => if ρ q = t + 1 then gx_g K V m k n q t else 0) (K 0 2)), gx_sum_swap (fun t q => if ρ q = t + 1 then gx_g K V m k n q t else 0)]
  congr 1
  refine gx_sum_congr (K 0 2) (fun q hq => ?_)
  by_cases z : ρ q = 0
  · rw [if_pos z]
    exact gx_sum_none _ (fun t _ => if_neg (by omega))
  · rw [if_neg z]
    have hq1 := h.1 q hq
    rw [gx_sum_at (i := ρ q - 1) (K 0 1) (by omega) (fun j hj hne => if_neg (by omega)), if_pos (by omega)]
theorem gx_feas {K V : gx_K} {m : Int32} {ρ : Nat → Nat} (kw : gx_KW K) (vw : gx_VW K V) (h : gx_vp (K 0 1) (K 0 2) ρ) (k d n : Nat) : d ≤ gx_dep K (gx_wn K (gx_pv K V ρ) m n) k ↔ gx_nA K k d ≤ gx_gn (gx_g K V m k n) ρ (K 0 2) + gx_nB K V k d n := by
  unfold gx_dep gx_nA gx_nB
  rw [gx_sea_plan kw vw h]
  by_cases z : d = 0
  · rw [if_pos z, if_pos z]; omega
  · rw [if_neg z, if_neg z]; omega
