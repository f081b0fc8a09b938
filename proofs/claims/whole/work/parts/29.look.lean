/-- how many of the first n are so -/
def gx_cnt (P : Nat → Prop) [DecidablePred P] : Nat → Nat
  | 0 => 0
  | k + 1 => if P k then gx_cnt P k + 1 else gx_cnt P k
theorem gx_cnt_t {P : Nat → Prop} [DecidablePred P] {k : Nat} (h : P k) : gx_cnt P (k + 1) = gx_cnt P k + 1 := if_pos h
theorem gx_cnt_f {P : Nat → Prop} [DecidablePred P] {k : Nat} (h : ¬ P k) : gx_cnt P (k + 1) = gx_cnt P k := if_neg h
theorem gx_cnt_le {P : Nat → Prop} [DecidablePred P] : ∀ n, gx_cnt P n ≤ n
  | 0 => Nat.le_refl _
  | n + 1 => by
    have := gx_cnt_le (P := P) n
    unfold gx_cnt
    split <;> omega
theorem gx_cnt_congr {P Q : Nat → Prop} [DecidablePred P] [DecidablePred Q] : ∀ n, (∀ k, k < n → (P k ↔ Q k)) → gx_cnt P n = gx_cnt Q n
  | 0, _ => rfl
  | n + 1, h => by
    have h1 := gx_cnt_congr n (fun k hk => h k (by omega))
    by_cases hp : P n
    · rw [gx_cnt_t hp, gx_cnt_t ((h n (by omega)).mp hp), h1]
    · rw [gx_cnt_f hp, gx_cnt_f (fun q => hp ((h n (by omega)).mpr q)), h1]
theorem gx_cnt_lt {P : Nat → Prop} [DecidablePred P] {q : Nat} (hq : P q) : ∀ n, q < n → gx_cnt P q < gx_cnt P n
  | 0, h => by omega
  | n + 1, h => by
    by_cases e : q = n
    · subst e; rw [gx_cnt_t hq]; omega
    · have := gx_cnt_lt hq n (by omega)
      by_cases hp : P n
      · rw [gx_cnt_t hp]; omega
      · rw [gx_cnt_f hp]; exact this
theorem gx_mx_congr {f g : Nat → Nat} : ∀ n, (∀ k, k < n → f k = g k) → gx_mx f n = gx_mx g n
  | 0, _ => rfl
  | n + 1, h => by
    show max (gx_mx f n) (f n) = max (gx_mx g n) (g n)
    rw [gx_mx_congr n (fun k hk => h k (by omega)), h n (by omega)]
/-- those that are so, in rows one behind another: what is counted over the rows is what is counted over them -/
theorem gx_cnt_row {S : Nat → Prop} [DecidablePred S] {g f : Nat → Int32} {x : Int32} : ∀ n, (∀ q, q < n → S q → g (gx_cnt S q) = f q) → gx_cnt (fun b => x = g b) (gx_cnt S n) = gx_cnt (fun q => S q ∧ x = f q) n
  | 0, _ => rfl
  | n + 1, h => by
    have ih := gx_cnt_row (S := S) (g := g) (f := f) (x := x) n (fun q hq => h q (by omega))
    by_cases hs : S n
    · have e := h n (by omega) hs
      rw [gx_cnt_t hs]
      by_cases hx : x = f n
      · rw [gx_cnt_t (P := fun b => x = g b) (by show x = g _; rw [e]; exact hx), gx_cnt_t (P := fun q => S q ∧ x = f q) ⟨hs, hx⟩, ih]
      · rw [gx_cnt_f (P := fun b => x = g b) (by show ¬ x = g _; rw [e]; exact hx), gx_cnt_f (P := fun q => S q ∧ x = f q) (fun q => hx q.2), ih]
    · rw [gx_cnt_f hs, gx_cnt_f (P := fun q => S q ∧ x = f q) (fun q => hs q.1), ih]
theorem gx_mx_row {S : Nat → Prop} [DecidablePred S] {g f : Nat → Int32} {h : Int32 → Nat} : ∀ n, (∀ q, q < n → S q → g (gx_cnt S q) = f q) → gx_mx (fun a => h (g a)) (gx_cnt S n) = gx_mx (fun p => if S p then h (f p) else 0) n
  | 0, _ => rfl
  | n + 1, hq => by
    have ih := gx_mx_row (S := S) (g := g) (f := f) (h := h) n (fun q hq1 => hq q (by omega))
    show _ = max (gx_mx (fun p => if S p then h (f p) else 0) n) (if S n then h (f n) else 0)
    by_cases hs : S n
    · rw [gx_cnt_t hs, if_pos hs, ← ih, ← hq n (by omega) hs]; rfl
    · rw [gx_cnt_f hs, if_neg hs, ← ih, Nat.max_zero]
/-- the greatest part of those that are so, alike by f -/
def gx_part (S : Nat → Prop) [DecidablePred S] (f : Nat → Int32) (n : Nat) : Nat := gx_mx (fun p => if S p then gx_cnt (fun q => S q ∧ f p = f q) n else 0) n
theorem gx_part_row {S : Nat → Prop} [DecidablePred S] {g f : Nat → Int32} (n : Nat) (h : ∀ q, q < n → S q → g (gx_cnt S q) = f q) : gx_mx (fun a => gx_cnt (fun b => g a = g b) (gx_cnt S n)) (gx_cnt S n) = gx_part S f n := by
  unfold gx_part
  have e := gx_mx_row (S := S) (g := g) (f := f) (h := fun x => gx_cnt (fun b => x = g b) (gx_cnt S n)) n h
  rw [e]
  refine gx_mx_congr n (fun p hp => ?_)
  by_cases hs : S p
  · rw [if_pos hs, if_pos hs, gx_cnt_row n h]
  · rw [if_neg hs, if_neg hs]
/-- the first place where the part is less than all before, and than c0: its number + 1 -/
def gx_lk (part : Nat → Nat) (c0 : Nat) : Nat → Nat × Nat
  | 0 => (c0, 0)
  | i + 1 => if part i < (gx_lk part c0 i).1 then (part i, i + 1) else gx_lk part c0 i
theorem gx_lk_t {part : Nat → Nat} {c0 i : Nat} (h : part i < (gx_lk part c0 i).1) : gx_lk part c0 (i + 1) = (part i, i + 1) := if_pos h
theorem gx_lk_f {part : Nat → Nat} {c0 i : Nat} (h : ¬ part i < (gx_lk part c0 i).1) : gx_lk part c0 (i + 1) = gx_lk part c0 i := if_neg h
theorem gx_lk_le {part : Nat → Nat} {c0 : Nat} : ∀ i, (gx_lk part c0 i).1 ≤ c0
  | 0 => Nat.le_refl _
  | i + 1 => by
    have ih := gx_lk_le (part := part) (c0 := c0) i
    by_cases h : part i < (gx_lk part c0 i).1
    · rw [gx_lk_t h]; show part i ≤ c0; omega
    · rw [gx_lk_f h]; exact ih
def gx_code (v : Nat) : Int32 := if v = 0 then -1 else nI ((v - 1) / 20 * 100 + (v - 1) % 20 + 1)
/-- the seas at place i, if p sleeps -/
def gx_fp (K V : gx_K) (i p : Nat) : Int32 := nI (gx_sea K (gx_wn K V (gx_sp p) (i % 20 + 1)) (i / 20))
/-- LOOK, of those who slept -/
def gx_look (K V : gx_K) (S : Nat → Prop) [DecidablePred S] : Int32 := gx_code (gx_lk (fun i => gx_part S (gx_fp K V i) (K 0 2)) (gx_cnt S (K 0 2)) (K 0 0 * 20)).2
set_option maxRecDepth 100000 in
set_option maxHeartbeats 4000000 in
theorem c_X7_mostAlike {l : Launch} {G : gt_G} {n : Nat} {w : gt_W} {N i : Nat} (hN : N ≤ 6) (hi : i < 200) : gt_C l G yX7_mostAlike cX7_mostAlike 7 (some .int) 1 0 0 n [.ref 141, .int (nI N), .int (nI i)] (gt_enc w) (some (.int (nI (gx_mx (fun a => gx_cnt (fun b => w (143 + a) i = w (143 + b) i) N) N)))) (gt_enc (w)) := by
  refine gt_C_of (own := RX7) (nm := "mostAlike") rfl rfl (by decide +kernel) (Nat.le_of_ble_eq_true rfl) ?_
  show gt_A _ _ _ _ _ _ _ _ _ _ _ [(0, .ref 141), (1, .int (nI N)), (2, .int (nI i))] _ _
  refine ga_iconst (nI 0) dX7_mostAlike_0 (by decide) ?_
  refine gs_istore_n [(0, _), (1, _), (2, _), (3, _)] dX7_mostAlike_1 (by decide) rfl rfl ?_
  refine ga_iconst (nI 0) dX7_mostAlike_2 (by decide) ?_
  refine gs_istore [(0, _), (1, _), (2, _), (3, _), (4, _)] dX7_mostAlike_3 (by decide) rfl rfl ?_
  have loop : ∀ k a, a + k = N → gt_A l G RX7 "mostAlike" cX7_mostAlike 7 (some .int) (gt_rm 1 0 0) (gt_Z G (n + 0) 0 0 (some (.int (nI (gx_mx (fun a => gx_cnt (fun b => w (143 + a) i = w (143 + b) i) N) N)))) (gt_enc (w))) (n, 0, 0) 5 [(0, .ref 141), (1, .int (nI N)), (2, .int (nI i)), (3, .int (nI (gx_mx (fun a => gx_cnt (fun b => w (143 + a) i = w (143 + b) i) N) a))), (4, .int (nI a))] [] (gt_enc w) := by
    intro k
    induction k with
    | zero =>
      intro a ht
      have ea : a = N := by omega
      refine ga_iload 4 dX7_mostAlike_5 rfl ?_
      refine ga_iload_n 1 dX7_mostAlike_7 rfl ?_
      refine ga_icmp_ge 66 dX7_mostAlike_8 (by decide) (fun c_8 => ?_) (fun c_8 => absurd (nI_le (by omega) (by omega)) c_8)
      refine ga_iload_n 3 dX7_mostAlike_66 rfl ?_
      exact ga_iret dX7_mostAlike_67 (gv (by rw [ea])) rfl
    | succ k ih =>
      intro a ht
      refine ga_iload 4 dX7_mostAlike_5 rfl ?_
      refine ga_iload_n 1 dX7_mostAlike_7 rfl ?_
      refine ga_icmp_ge 66 dX7_mostAlike_8 (by decide) (fun c_8 => absurd c_8 (nI_ge (by omega) (by omega))) (fun c_8 => ?_)
      refine ga_iconst (nI 0) dX7_mostAlike_11 (by decide) ?_
      refine gs_istore [(0, _), (1, _), (2, _), (3, _), (4, _), (5, _)] dX7_mostAlike_12 (by decide) rfl rfl ?_
      refine ga_iconst (nI 0) dX7_mostAlike_14 (by decide) ?_
      refine gs_istore [(0, _), (1, _), (2, _), (3, _), (4, _), (5, _), (6, _)] dX7_mostAlike_15 (by decide) rfl rfl ?_
      have loop2 : ∀ k2 b, b + k2 = N → gt_A l G RX7 "mostAlike" cX7_mostAlike 7 (some .int) (gt_rm 1 0 0) (gt_Z G (n + 0) 0 0 (some (.int (nI (gx_mx (fun a => gx_cnt (fun b => w (143 + a) i = w (143 + b) i) N) N)))) (gt_enc (w))) (n, 0, 0) 17 [(0, .ref 141), (1, .int (nI N)), (2, .int (nI i)), (3, .int (nI (gx_mx (fun a => gx_cnt (fun b => w (143 + a) i = w (143 + b) i) N) a))), (4, .int (nI a)), (5, .int (nI (gx_cnt (fun b => w (143 + a) i = w (143 + b) i) b))), (6, .int (nI b))] [] (gt_enc w) := by
        intro k2
        induction k2 with
        | zero =>
          intro b ht
          have eb : b = N := by omega
          refine ga_iload 6 dX7_mostAlike_17 rfl ?_
          refine ga_iload_n 1 dX7_mostAlike_19 rfl ?_
          refine ga_icmp_ge 53 dX7_mostAlike_20 (by decide) (fun c_20 => ?_) (fun c_20 => absurd (nI_le (by omega) (by omega)) c_20)
          refine ga_iload_n 3 dX7_mostAlike_53 rfl ?_
          refine ga_iload 5 dX7_mostAlike_54 rfl ?_
          refine ga_max km_X7_72 kmath_max (gt_room0 (by decide)) (Nat.le_of_ble_eq_true rfl) dX7_mostAlike_56 ?_
          refine gs_istore_n [(0, _), (1, _), (2, _), (3, _), (4, _), (5, _), (6, _)] dX7_mostAlike_59 (by decide) rfl rfl ?_
          refine gs_iincN 4 1 [(0, _), (1, _), (2, _), (3, _), (4, _), (5, _), (6, _)] dX7_mostAlike_60 rfl (by decide) (by decide) rfl rfl ?_
          refine ga_goto 5 dX7_mostAlike_63 (by decide) ?_
          refine ga_take 5 ?_
          have h9 := ih (a + 1) (by omega)
          rw [show gx_mx (fun a => gx_cnt (fun b => w (143 + a) i = w (143 + b) i) N) (a + 1) = max (gx_mx (fun a => gx_cnt (fun b => w (143 + a) i = w (143 + b) i) N) a) (gx_cnt (fun b => w (143 + a) i = w (143 + b) i) N) from rfl, ← gx_maxN (by have := gx_mx_le (f := fun a => gx_cnt (fun b => w (143 + a) i = w (143 + b) i) N) (b := N) a (fun k _ => gx_cnt_le N); omega) (by have := gx_cnt_le (P := fun b => w (143 + a) i = w (143 + b) i) N; omega)] at h9
          rw [eb]
          exact h9
        | succ k2 ih =>
          intro b ht
          refine ga_iload 6 dX7_mostAlike_17 rfl ?_
          refine ga_iload_n 1 dX7_mostAlike_19 rfl ?_
          refine ga_icmp_ge 53 dX7_mostAlike_20 (by decide) (fun c_20 => absurd c_20 (nI_ge (by omega) (by omega))) (fun c_20 => ?_)
          refine ga_aload_n 0 dX7_mostAlike_23 rfl ?_
          refine ga_get kf_X7_11 (sh141 _) rfl dX7_mostAlike_24 ?_
          refine ga_iload 4 dX7_mostAlike_27 rfl ?_
          refine ge_aald sh142 rfl rfl (gt_ixn (by omega)) (if_pos (by omega)) dX7_mostAlike_29 ?_
          refine ga_iload_n 2 dX7_mostAlike_30 rfl ?_
          refine ge_iald (shRow (b := 143) (k := a) (Or.inr (Or.inr ⟨rfl, rfl, by omega⟩))) (gt_ixn hi) dX7_mostAlike_31 ?_
          refine ga_aload_n 0 dX7_mostAlike_32 rfl ?_
          refine ga_get kf_X7_11 (sh141 _) rfl dX7_mostAlike_33 ?_
          refine ga_iload 6 dX7_mostAlike_36 rfl ?_
          refine ge_aald sh142 rfl rfl (gt_ixn (by omega)) (if_pos (by omega)) dX7_mostAlike_38 ?_
          refine ga_iload_n 2 dX7_mostAlike_39 rfl ?_
          refine ge_iald (shRow (b := 143) (k := b) (Or.inr (Or.inr ⟨rfl, rfl, by omega⟩))) (gt_ixn hi) dX7_mostAlike_40 ?_
          refine ga_icmp_ne 47 dX7_mostAlike_41 (by decide) (fun c_41 => ?_) (fun c_41 => ?_)
          · refine gs_iincN 6 1 [(0, _), (1, _), (2, _), (3, _), (4, _), (5, _), (6, _)] dX7_mostAlike_47 rfl (by decide) (by decide) rfl rfl ?_
            refine ga_goto 17 dX7_mostAlike_50 (by decide) ?_
            have h9 := ih (b + 1) (by omega)
            first | (rw [gx_cnt_f (P := fun b => w (143 + a) i = w (143 + b) i) c_41] at h9; exact h9) | (rw [gx_cnt_t (P := fun b => w (143 + a) i = w (143 + b) i) c_41] at h9; exact h9)
          · refine gs_iincN 5 1 [(0, _), (1, _), (2, _), (3, _), (4, _), (5, _), (6, _)] dX7_mostAlike_44 rfl (by decide) (by decide) rfl rfl ?_
            refine gs_iincN 6 1 [(0, _), (1, _), (2, _), (3, _), (4, _), (5, _), (6, _)] dX7_mostAlike_47 rfl (by decide) (by decide) rfl rfl ?_
            refine ga_goto 17 dX7_mostAlike_50 (by decide) ?_
            have h9 := ih (b + 1) (by omega)
            first | (rw [gx_cnt_f (P := fun b => w (143 + a) i = w (143 + b) i) c_41] at h9; exact h9) | (rw [gx_cnt_t (P := fun b => w (143 + a) i = w (143 + b) i) c_41] at h9; exact h9)
      exact loop2 N 0 (by omega)
  exact loop N 0 (by omega)
set_option maxRecDepth 100000 in
set_option maxHeartbeats 4000000 in
theorem c_X7_bestMark {l : Launch} {G : gt_G} {n : Nat} {w : gt_W} {c : Nat} {K V : gx_K} {m : Int32} {sl : Int32} {S : Nat → Prop} [DecidablePred S] (hc : gt_isC c) (hK : gx_Co w c K) (kw : gx_KW K) (hV : gx_St w 20 K V m) (vw : gx_VW K V) (hS : ∀ p, p < K 0 2 → ((sl >>> (nI p &&& 31)) &&& nI 1 = nI 1 ↔ S p)) : gt_D l G yX7_bestMark cX7_bestMark 10 (some .int) 4 n [.ref 141, .int sl, .ref c, .ref 20, .ref 25] w (fun r w' => r = some (.int (gx_look K V S)) ∧ ∀ a, (a < 25 ∨ 30 ≤ a) → (a < 143 ∨ 149 ≤ a) → w' a = w a) := by
  refine gt_D_of (own := RX7) (nm := "bestMark") rfl rfl (by decide +kernel) (Nat.le_of_ble_eq_true rfl) ?_
  show gt_A _ _ _ _ _ _ _ _ _ _ _ [(0, .ref 141), (1, .int sl), (2, .ref c), (3, .ref 20), (4, .ref 25)] _ _
  refine ga_iconst (nI 0) dX7_bestMark_0 (by decide) ?_
  refine gs_istore [(0, _), (1, _), (2, _), (3, _), (4, _), (5, _)] dX7_bestMark_1 (by decide) rfl rfl ?_
  refine ga_iconst (nI 0) dX7_bestMark_3 (by decide) ?_
  refine gs_istore [(0, _), (1, _), (2, _), (3, _), (4, _), (5, _), (6, _)] dX7_bestMark_4 (by decide) rfl rfl ?_
  have loop : ∀ k p, p + k = K 0 2 → ∀ w2 : gt_W, gx_Co w2 c K → gx_St w2 20 K V m → (∀ a, (a < 25 ∨ 30 ≤ a) → (a < 143 ∨ 149 ≤ a) → w2 a = w a) → (∀ q, q < p → S q → gx_noted w2 (gx_cnt S q) K V (gx_sp q) 20) → gt_A l G RX7 "bestMark" cX7_bestMark 10 (some .int) (gt_rm 4 0 0) (gt_ZD G n (fun r w' => r = some (.int (gx_look K V S)) ∧ ∀ a, (a < 25 ∨ 30 ≤ a) → (a < 143 ∨ 149 ≤ a) → w' a = w a)) (n, 0, 0) 6 [(0, .ref 141), (1, .int sl), (2, .ref c), (3, .ref 20), (4, .ref 25), (5, .int (nI (gx_cnt S p))), (6, .int (nI p))] [] (gt_enc w2) := by
    intro k
    induction k with
    | zero =>
      intro p ht w2 hK hV hF hno
      have ep : p = K 0 2 := by omega
      refine ga_iload 6 dX7_bestMark_6 rfl ?_
      refine ga_aload_n 2 dX7_bestMark_8 rfl ?_
      refine ga_get kf_X7_16 (shC hc _) (gv hK.1.2.2.1) dX7_bestMark_9 ?_
      refine ga_icmp_ge 52 dX7_bestMark_12 (by decide) (fun c_12 => ?_) (fun c_12 => absurd (nI_le (by omega) (by have := kw.2.2.1; omega)) c_12)
      refine ga_iconst ((-1)) dX7_bestMark_52 (by decide) ?_
      refine gs_istore [(0, _), (1, _), (2, _), (3, _), (4, _), (5, _), (6, _)] dX7_bestMark_53 (by decide) rfl rfl ?_
      refine ga_iload 5 dX7_bestMark_55 rfl ?_
      refine gs_istore [(0, _), (1, _), (2, _), (3, _), (4, _), (5, _), (6, _), (7, _)] dX7_bestMark_57 (by decide) rfl rfl ?_
      refine ga_iconst (nI 0) dX7_bestMark_59 (by decide) ?_
      refine gs_istore [(0, _), (1, _), (2, _), (3, _), (4, _), (5, _), (6, _), (7, _), (8, _)] dX7_bestMark_60 (by decide) rfl rfl ?_
      have hpt : ∀ i, i < K 0 0 * 20 → gx_mx (fun a => gx_cnt (fun b => w2 (143 + a) i = w2 (143 + b) i) (gx_cnt S (K 0 2))) (gx_cnt S (K 0 2)) = gx_part S (gx_fp K V i) (K 0 2) := fun i hi => gx_part_row (g := fun a => w2 (143 + a) i) (K 0 2) (fun q hq hs => by
        have h7 := hno q (by omega) hs (i % 20) (i / 20) (Nat.mod_lt _ (by decide)) (by omega)
        rw [show i / 20 * 20 + i % 20 = i by omega] at h7
        exact h7)
      rw [show (p : Nat) = K 0 2 from ep]
      have loop2 : ∀ k2 i, i + k2 = K 0 0 * 20 → gt_A l G RX7 "bestMark" cX7_bestMark 10 (some .int) (gt_rm 4 0 0) (gt_ZD G n (fun r w' => r = some (.int (gx_look K V S)) ∧ ∀ a, (a < 25 ∨ 30 ≤ a) → (a < 143 ∨ 149 ≤ a) → w' a = w a)) (n, 0, 0) 62 [(0, .ref 141), (1, .int sl), (2, .ref c), (3, .ref 20), (4, .ref 25), (5, .int (nI (gx_cnt S (K 0 2)))), (6, .int (gx_code (gx_lk (fun i => gx_part S (gx_fp K V i) (K 0 2)) (gx_cnt S (K 0 2)) i).2)), (7, .int (nI (gx_lk (fun i => gx_part S (gx_fp K V i) (K 0 2)) (gx_cnt S (K 0 2)) i).1)), (8, .int (nI i))] [] (gt_enc w2) := by
        intro k2
        induction k2 with
        | zero =>
          intro i ht
          have ei : i = K 0 0 * 20 := by omega
          refine ga_iload 8 dX7_bestMark_62 rfl ?_
          refine ga_aload_n 2 dX7_bestMark_64 rfl ?_
          refine ga_get kf_X7_61 (shC hc _) (gv hK.1.1) dX7_bestMark_65 ?_
          refine ga_bipush (nI 20) dX7_bestMark_68 (by decide) ?_
          refine ga_imul dX7_bestMark_70 ?_
          refine ga_icmp_ge 119 dX7_bestMark_71 (by decide) (fun c_71 => ?_) (fun c_71 => absurd (by rw [pk_mul]; exact nI_le (by omega) (by have := kw.1; omega)) c_71)
          refine ga_iload 6 dX7_bestMark_119 rfl ?_
          exact gd_iret dX7_bestMark_121 ⟨gv (by unfold gx_look; rw [ei]), hF⟩
        | succ k2 ih =>
          intro i ht
          have hle := gx_lk_le (part := fun i => gx_part S (gx_fp K V i) (K 0 2)) (c0 := gx_cnt S (K 0 2)) i
          have hc6 : gx_cnt S (K 0 2) ≤ 6 := by have := gx_cnt_le (P := S) (K 0 2); have := kw.2.2.1; omega
          have hp6 : gx_part S (gx_fp K V i) (K 0 2) ≤ K 0 2 := gx_mx_le _ (fun k _ => by show (if S k then _ else _) ≤ _; split; exact gx_cnt_le _; exact Nat.zero_le _)
          have hP6 := kw.2.2.1
          refine ga_iload 8 dX7_bestMark_62 rfl ?_
          refine ga_aload_n 2 dX7_bestMark_64 rfl ?_
          refine ga_get kf_X7_61 (shC hc _) (gv hK.1.1) dX7_bestMark_65 ?_
          refine ga_bipush (nI 20) dX7_bestMark_68 (by decide) ?_
          refine ga_imul dX7_bestMark_70 ?_
          refine ga_icmp_ge 119 dX7_bestMark_71 (by decide) (fun c_71 => absurd c_71 (by rw [pk_mul]; exact nI_ge (by omega) (by have := kw.1; omega))) (fun c_71 => ?_)
          refine ga_aload_n 0 dX7_bestMark_74 rfl ?_
          refine ga_iload 5 dX7_bestMark_75 rfl ?_
          refine ga_iload 8 dX7_bestMark_77 rfl ?_
          refine ga_V2 km_X7_64 kv_X7_mostAlike (c_X7_mostAlike (by have := gx_cnt_le (P := S) (K 0 2); have := kw.2.2.1; omega) (by have := kw.1; omega)) (sh141 _) rfl rfl (gt_rc0 (by decide)) (Nat.le_of_ble_eq_true rfl) dX7_bestMark_79 ?_
          refine ga_top (nI (gx_part S (gx_fp K V i) (K 0 2))) (by rw [hpt i (by omega)]) ?_
          refine gs_istore [(0, _), (1, _), (2, _), (3, _), (4, _), (5, _), (6, _), (7, _), (8, _), (9, _)] dX7_bestMark_82 (by decide) rfl rfl ?_
          refine ga_iload 9 dX7_bestMark_84 rfl ?_
          refine ga_iload 7 dX7_bestMark_86 rfl ?_
          refine ga_icmp_ge 113 dX7_bestMark_88 (by decide) (fun c_88 => ?_) (fun c_88 => ?_)
          · refine gs_iincN 8 1 [(0, _), (1, _), (2, _), (3, _), (4, _), (5, _), (6, _), (7, _), (8, _), (9, _)] dX7_bestMark_113 rfl (by decide) (by decide) rfl rfl ?_
            refine ga_goto 62 dX7_bestMark_116 (by decide) ?_
            refine ga_take 9 ?_
            have h9 := ih (i + 1) (by omega)
            by_cases hq : gx_part S (gx_fp K V i) (K 0 2) < (gx_lk (fun i => gx_part S (gx_fp K V i) (K 0 2)) (gx_cnt S (K 0 2)) i).1
            · rw [gx_lk_t (part := fun i => gx_part S (gx_fp K V i) (K 0 2)) hq] at h9
              first | exact h9 | exact absurd c_88 (nI_ge hq (by omega))
            · rw [gx_lk_f (part := fun i => gx_part S (gx_fp K V i) (K 0 2)) hq] at h9
              first | exact h9 | exact absurd (nI_le (Nat.le_of_not_lt hq) (by omega)) c_88
          · refine ga_iload 9 dX7_bestMark_91 rfl ?_
            refine gs_istore [(0, _), (1, _), (2, _), (3, _), (4, _), (5, _), (6, _), (7, _), (8, _), (9, _)] dX7_bestMark_93 (by decide) rfl rfl ?_
            refine ga_iload 8 dX7_bestMark_95 rfl ?_
            refine ga_bipush (nI 20) dX7_bestMark_97 (by decide) ?_
            refine ga_idiv dX7_bestMark_99 (by decide) ?_
            refine ga_top (nI (i / 20)) (pk_div (by have := kw.1; omega) (by decide) (by decide)) ?_
            refine ga_bipush (nI 100) dX7_bestMark_100 (by decide) ?_
            refine ga_imul dX7_bestMark_102 ?_
            refine ga_iload 8 dX7_bestMark_103 rfl ?_
            refine ga_bipush (nI 20) dX7_bestMark_105 (by decide) ?_
            refine ga_irem dX7_bestMark_107 (by decide) ?_
            refine ga_top (nI (i % 20)) (pk_rem (by have := kw.1; omega) (by decide) (by decide)) ?_
            refine ga_iadd dX7_bestMark_108 ?_
            refine ga_iconst (nI 1) dX7_bestMark_109 (by decide) ?_
            refine ga_iadd dX7_bestMark_110 ?_
            refine ga_top (gx_code (i + 1)) (by rw [pk_mul, nI_add, nI_add]; rfl) ?_
            refine gs_istore [(0, _), (1, _), (2, _), (3, _), (4, _), (5, _), (6, _), (7, _), (8, _), (9, _)] dX7_bestMark_111 (by decide) rfl rfl ?_
            refine gs_iincN 8 1 [(0, _), (1, _), (2, _), (3, _), (4, _), (5, _), (6, _), (7, _), (8, _), (9, _)] dX7_bestMark_113 rfl (by decide) (by decide) rfl rfl ?_
            refine ga_goto 62 dX7_bestMark_116 (by decide) ?_
            refine ga_take 9 ?_
            have h9 := ih (i + 1) (by omega)
            by_cases hq : gx_part S (gx_fp K V i) (K 0 2) < (gx_lk (fun i => gx_part S (gx_fp K V i) (K 0 2)) (gx_cnt S (K 0 2)) i).1
            · rw [gx_lk_t (part := fun i => gx_part S (gx_fp K V i) (K 0 2)) hq] at h9
              first | exact h9 | exact absurd c_88 (nI_ge hq (by omega))
            · rw [gx_lk_f (part := fun i => gx_part S (gx_fp K V i) (K 0 2)) hq] at h9
              first | exact h9 | exact absurd (nI_le (Nat.le_of_not_lt hq) (by omega)) c_88
      exact loop2 (K 0 0 * 20) 0 (by omega)
    | succ k ih =>
      intro p ht w2 hK hV hF hno
      refine ga_iload 6 dX7_bestMark_6 rfl ?_
      refine ga_aload_n 2 dX7_bestMark_8 rfl ?_
      refine ga_get kf_X7_16 (shC hc _) (gv hK.1.2.2.1) dX7_bestMark_9 ?_
      refine ga_icmp_ge 52 dX7_bestMark_12 (by decide) (fun c_12 => absurd c_12 (nI_ge (by omega) (by have := kw.2.2.1; omega))) (fun c_12 => ?_)
      refine ga_iload_n 1 dX7_bestMark_15 rfl ?_
      refine ga_iload 6 dX7_bestMark_16 rfl ?_
      refine ga_ishr dX7_bestMark_18 ?_
      refine ga_iconst (nI 1) dX7_bestMark_19 (by decide) ?_
      refine ga_iand dX7_bestMark_20 ?_
      refine ga_iconst (nI 1) dX7_bestMark_21 (by decide) ?_
      refine ga_icmp_ne 46 dX7_bestMark_22 (by decide) (fun c_22 => ?_) (fun c_22 => ?_)
      · refine gs_iincN 6 1 [(0, _), (1, _), (2, _), (3, _), (4, _), (5, _), (6, _)] dX7_bestMark_46 rfl (by decide) (by decide) rfl rfl ?_
        refine ga_goto 6 dX7_bestMark_49 (by decide) ?_
        have h9 := ih (p + 1) (by omega)
        by_cases hq : S p
        · rw [gx_cnt_t hq] at h9
          first
          | exact h9 _ (gx_Co_eq hc (fun a ha => o40 a (by omega) (by omega)) hK1) (gx_St_eq (fun a h1 h2 => o40 a (by omega) (by omega)) hV1) (fun a h1 h2 => by rw [o40 a (by omega) h1, hF1 a h1]; exact hF a h1 h2) (fun q hq1 hs n k h1 h2 => by
              by_cases e : q = p
              · subst e; exact hn40 n k h1 h2
              · have := gx_cnt_lt hs p (by omega)
                rw [o40 (143 + gx_cnt S q) (by omega) (by omega), hF1 (143 + gx_cnt S q) (by omega)]
                exact hno q (by omega) hs n k h1 h2)
          | exact absurd ((hS p (by omega)).mpr hq) c_22
        · rw [gx_cnt_f hq] at h9
          first
          | exact h9 _ hK hV hF (fun q hq1 hs => by
              by_cases e : q = p
              · subst e; exact absurd hs hq
              · exact hno q (by omega) hs)
          | exact absurd ((hS p (by omega)).mp c_22) hq
      · refine ga_aload_n 0 dX7_bestMark_25 rfl ?_
        refine ga_iload 6 dX7_bestMark_26 rfl ?_
        refine ga_aload_n 3 dX7_bestMark_28 rfl ?_
        refine ga_aload 4 dX7_bestMark_29 rfl ?_
        refine gd_V3 km_X7_32 kv_X7_beginAsleep c_X7_beginAsleep (sh141 _) rfl rfl (gt_rc0 (by decide)) (Nat.le_of_ble_eq_true rfl) dX7_bestMark_31 (fun r_31 w_31 q_31 => ?_)
        obtain ⟨rfl, hF1, hcp⟩ := q_31
        have hK1 := gx_Co_f25 hc hF1 hK
        have hV1 := gx_St20_f25 hF1 hV
        have hT := hcp K V m kw hV
        refine ga_aload_n 0 dX7_bestMark_34 rfl ?_
        refine ga_iload 5 dX7_bestMark_35 rfl ?_
        refine ga_aload_n 2 dX7_bestMark_37 rfl ?_
        refine ga_aload 4 dX7_bestMark_38 rfl ?_
        refine gd_V3 km_X7_57 kv_X7_noteSeas (c_X7_noteSeas hc hK1 kw hT vw (row := gx_cnt S p) (by have := gx_cnt_le (P := S) p; have := kw.2.2.1; omega)) (sh141 _) rfl rfl (gt_rc0 (by decide)) (Nat.le_of_ble_eq_true rfl) dX7_bestMark_40 (fun r_40 w_40 q_40 => ?_)
        obtain ⟨rfl, o40, hn40⟩ := q_40
        have hc6 : gx_cnt S p < 6 := by have := gx_cnt_le (P := S) p; have := kw.2.2.1; omega
        refine gs_iincN 5 1 [(0, _), (1, _), (2, _), (3, _), (4, _), (5, _), (6, _)] dX7_bestMark_43 rfl (by decide) (by decide) rfl rfl ?_
        refine gs_iincN 6 1 [(0, _), (1, _), (2, _), (3, _), (4, _), (5, _), (6, _)] dX7_bestMark_46 rfl (by decide) (by decide) rfl rfl ?_
        refine ga_goto 6 dX7_bestMark_49 (by decide) ?_
        have h9 := ih (p + 1) (by omega)
        by_cases hq : S p
        · rw [gx_cnt_t hq] at h9
          first
          | exact h9 _ (gx_Co_eq hc (fun a ha => o40 a (by omega) (by omega)) hK1) (gx_St_eq (fun a h1 h2 => o40 a (by omega) (by omega)) hV1) (fun a h1 h2 => by rw [o40 a (by omega) h1, hF1 a h1]; exact hF a h1 h2) (fun q hq1 hs n k h1 h2 => by
              by_cases e : q = p
              · subst e; exact hn40 n k h1 h2
              · have := gx_cnt_lt hs p (by omega)
                rw [o40 (143 + gx_cnt S q) (by omega) (by omega), hF1 (143 + gx_cnt S q) (by omega)]
                exact hno q (by omega) hs n k h1 h2)
          | exact absurd ((hS p (by omega)).mpr hq) c_22
        · rw [gx_cnt_f hq] at h9
          first
          | exact h9 _ hK hV hF (fun q hq1 hs => by
              by_cases e : q = p
              · subst e; exact absurd hs hq
              · exact hno q (by omega) hs)
          | exact absurd ((hS p (by omega)).mp c_22) hq
  exact loop (K 0 2) 0 (by omega) _ hK hV (fun _ _ _ => rfl) (fun q h => by omega)
