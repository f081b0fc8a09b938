theorem gx_seat_m1 {v : Nat} (hv : v < 2 ^ 30) : gx_seat v = -1 ↔ v = 0 := by
  cases v with
  | zero => exact ⟨fun _ => rfl, fun _ => by decide⟩
  | succ t =>
    rw [gx_seat_s]
    refine ⟨fun q => ?_, fun q => by cases q⟩
    have h1 : ¬ nI t < 0 := nI_pos (by omega)
    rw [q] at h1
    exact absurd (by decide) h1
theorem gx_seat_eq {v t : Nat} (hv : v < 2 ^ 30) (ht : t < 2 ^ 30) : gx_seat v = nI t ↔ v = t + 1 := by
  cases v with
  | zero =>
    refine ⟨fun q => ?_, fun q => by cases q⟩
    have h1 : ¬ nI t < 0 := nI_pos (by omega)
    rw [← q] at h1
    exact absurd (by decide) h1
  | succ u =>
    rw [gx_seat_s, nI_eq (by omega) (by omega)]
    omega
/-- the set of those of the first n that are so -/
def gx_set (P : Nat → Prop) [DecidablePred P] : Nat → Int32
  | 0 => nI 0
  | k + 1 => if P k then gx_set P k ||| (nI 1 <<< (nI k &&& 31)) else gx_set P k
theorem gx_set_t {P : Nat → Prop} [DecidablePred P] {k : Nat} (h : P k) : gx_set P (k + 1) = gx_set P k ||| (nI 1 <<< (nI k &&& 31)) := if_pos h
theorem gx_set_f {P : Nat → Prop} [DecidablePred P] {k : Nat} (h : ¬ P k) : gx_set P (k + 1) = gx_set P k := if_neg h
theorem gx_set_congr {P Q : Nat → Prop} [DecidablePred P] [DecidablePred Q] : ∀ n, (∀ k, k < n → (P k ↔ Q k)) → gx_set P n = gx_set Q n
  | 0, _ => rfl
  | n + 1, h => by
    have h1 := gx_set_congr n (fun k hk => h k (by omega))
    by_cases hp : P n
    · rw [gx_set_t hp, gx_set_t ((h n (by omega)).mp hp), h1]
    · rw [gx_set_f hp, gx_set_f (fun q => hp ((h n (by omega)).mpr q)), h1]
/-- the first of t, t + 1 .. (k of them) that is so; -1: none -/
def gx_first (P : Nat → Prop) [DecidablePred P] : Nat → Nat → Int32
  | _, 0 => -1
  | t, k + 1 => if P t then nI t else gx_first P (t + 1) k
/-- a player who sleeps, by the set m -/
def gx_slp (m x : Int32) : Prop := (m >>> (x &&& 31)) &&& nI 1 = nI 1
def gx_slpB (m x : Int32) : Int32 := if (m >>> (x &&& 31)) &&& nI 1 = nI 1 then nI 1 else nI 0
/-- the sleepers, with x told to sleep (b is not 0) or to wake -/
def gx_slep (m x b : Int32) : Int32 := if b = 0 then m &&& ((nI 1 <<< (x &&& 31)) ^^^ (-1)) else m ||| (nI 1 <<< (x &&& 31))
def gx_more (wd ar ti : Nat) : Nat := min 99 (wd + (ar - ti / 5))
theorem gx_moreN {wd ar ti : Nat} (h1 : wd ≤ 99) (h2 : ar ≤ 9) (h3 : ti ≤ 99) : (if nI wd + (if nI 0 < nI ar - nI ti / nI 5 then nI ar - nI ti / nI 5 else nI 0) < nI 99 then nI wd + (if nI 0 < nI ar - nI ti / nI 5 then nI ar - nI ti / nI 5 else nI 0) else nI 99) = nI (gx_more wd ar ti) := by
  rw [pk_div (by omega) (by omega) (by omega), gx_max0 (by omega) (by omega), nI_add]
  unfold gx_more
  by_cases h : wd + (ar - ti / 5) < 99
  · rw [if_pos (nI_lt h (by omega)), Nat.min_eq_right (by omega)]
  · rw [if_neg (nI_nlt (by omega) (by omega)), Nat.min_eq_left (by omega)]
/-- where f is greatest among the first n: 0: there are none; k + 1: at k, the first such -/
def gx_arg (f : Nat → Nat) : Nat → Nat
  | 0 => 0
  | k + 1 => if gx_arg f k = 0 ∨ f (gx_arg f k - 1) < f k then k + 1 else gx_arg f k
/-- the same, of those above 0 -/
def gx_argp (f : Nat → Nat) : Nat → Nat
  | 0 => 0
  | k + 1 => if (if gx_argp f k = 0 then 0 else f (gx_argp f k - 1)) < f k then k + 1 else gx_argp f k
theorem gx_arg_le (f : Nat → Nat) : ∀ n, gx_arg f n ≤ n
  | 0 => Nat.le_refl _
  | n + 1 => by
    have := gx_arg_le f n
    unfold gx_arg
    split <;> omega
theorem gx_argp_le (f : Nat → Nat) : ∀ n, gx_argp f n ≤ n
  | 0 => Nat.le_refl _
  | n + 1 => by
    have h := gx_argp_le f n
    show (if (if gx_argp f n = 0 then 0 else f (gx_argp f n - 1)) < f n then n + 1 else gx_argp f n) ≤ n + 1
    by_cases q : (if gx_argp f n = 0 then 0 else f (gx_argp f n - 1)) < f n
    · rw [if_pos q]; exact Nat.le_refl _
    · rw [if_neg q]; omega
set_option maxRecDepth 100000 in
set_option maxHeartbeats 4000000 in
theorem c_X8_sleeps {l : Launch} {G : gt_G} {n : Nat} {w : gt_W} {s : Nat} {m : Int32} (hs : gt_isS s) (hm : w s 1 = m) (x : Int32) : gt_C l G yX8_sleeps cX8_sleeps 2 (some .boolean) 1 0 0 n [.ref s, .int x] (gt_enc w) (some (.int (gx_slpB m x))) (gt_enc (w)) := by
  refine gt_C_of (own := RX8) (nm := "sleeps") rfl rfl (by decide +kernel) (Nat.le_of_ble_eq_true rfl) ?_
  show gt_A _ _ _ _ _ _ _ _ _ _ _ [(0, .ref s), (1, .int x)] _ _
  refine ga_aload_n 0 dX8_sleeps_0 rfl ?_
  refine ga_get kf_X8_28 (shS hs _) (gv hm) dX8_sleeps_1 ?_
  refine ga_iload_n 1 dX8_sleeps_4 rfl ?_
  refine ga_ishr dX8_sleeps_5 ?_
  refine ga_iconst (nI 1) dX8_sleeps_6 (by decide) ?_
  refine ga_iand dX8_sleeps_7 ?_
  refine ga_iconst (nI 1) dX8_sleeps_8 (by decide) ?_
  refine ga_icmp_ne 16 dX8_sleeps_9 (by decide) (fun c_9 => ?_) (fun c_9 => ?_)
  · refine ga_iconst (nI 0) dX8_sleeps_16 (by decide) ?_
    exact ga_zret dX8_sleeps_17 (by decide) (gv (by first | exact if_pos c_9 | exact if_neg c_9)) rfl
  · refine ga_iconst (nI 1) dX8_sleeps_12 (by decide) ?_
    refine ga_goto 17 dX8_sleeps_13 (by decide) ?_
    exact ga_zret dX8_sleeps_17 (by decide) (gv (by first | exact if_pos c_9 | exact if_neg c_9)) rfl
set_option maxRecDepth 100000 in
set_option maxHeartbeats 4000000 in
theorem c_X8_setAsleep {l : Launch} {G : gt_G} {n : Nat} {w : gt_W} {s : Nat} {m : Int32} (hs : gt_isS s) (hm : w s 1 = m) (x b : Int32) : gt_C l G yX8_setAsleep cX8_setAsleep 3 none 1 0 0 n [.ref s, .int x, .int b] (gt_enc w) (none) (gt_enc (gt_wr w s (upd (w s) 1 (gx_slep m x b)))) := by
  refine gt_C_of (own := RX8) (nm := "setAsleep") rfl rfl (by decide +kernel) (Nat.le_of_ble_eq_true rfl) ?_
  show gt_A _ _ _ _ _ _ _ _ _ _ _ [(0, .ref s), (1, .int x), (2, .int b)] _ _
  refine ga_aload_n 0 dX8_setAsleep_0 rfl ?_
  refine ga_iload_n 2 dX8_setAsleep_1 rfl ?_
  refine ga_if_eq 16 dX8_setAsleep_2 (by decide) (fun c_2 => ?_) (fun c_2 => ?_)
  · refine ga_aload_n 0 dX8_setAsleep_16 rfl ?_
    refine ga_get kf_X8_28 (shS hs _) (gv hm) dX8_setAsleep_17 ?_
    refine ga_iconst (nI 1) dX8_setAsleep_20 (by decide) ?_
    refine ga_iload_n 1 dX8_setAsleep_21 rfl ?_
    refine ga_ishl dX8_setAsleep_22 ?_
    refine ga_iconst ((-1)) dX8_setAsleep_23 (by decide) ?_
    refine ga_ixor dX8_setAsleep_24 ?_
    refine ga_iand dX8_setAsleep_25 ?_
    refine ga_top (gx_slep m x b) (by first | exact (if_pos c_2).symm | exact (if_neg c_2).symm) ?_
    refine ge_put 1 kp_X8_28 (shS hs _) (shS hs _) rfl rfl (Nat.le_of_ble_eq_true rfl) dX8_setAsleep_26 ?_
    exact ga_vret dX8_setAsleep_29 rfl (fun _ _ q => q)
  · refine ga_aload_n 0 dX8_setAsleep_5 rfl ?_
    refine ga_get kf_X8_28 (shS hs _) (gv hm) dX8_setAsleep_6 ?_
    refine ga_iconst (nI 1) dX8_setAsleep_9 (by decide) ?_
    refine ga_iload_n 1 dX8_setAsleep_10 rfl ?_
    refine ga_ishl dX8_setAsleep_11 ?_
    refine ga_ior dX8_setAsleep_12 ?_
    refine ga_goto 26 dX8_setAsleep_13 (by decide) ?_
    refine ga_top (gx_slep m x b) (by first | exact (if_pos c_2).symm | exact (if_neg c_2).symm) ?_
    refine ge_put 1 kp_X8_28 (shS hs _) (shS hs _) rfl rfl (Nat.le_of_ble_eq_true rfl) dX8_setAsleep_26 ?_
    exact ga_vret dX8_setAsleep_29 rfl (fun _ _ q => q)
set_option maxRecDepth 100000 in
set_option maxHeartbeats 4000000 in
theorem c_X8_sitterAt {l : Launch} {G : gt_G} {n : Nat} {w : gt_W} {s c : Nat} {K V : gx_K} {m : Int32} {t : Nat} (hc : gt_isC c) (hK : gx_Co w c K) (kw : gx_KW K) (hs : gt_isS s) (hV : gx_St w s K V m) (vw : gx_VW K V) (ht : t < 6) : gt_C l G yX8_sitterAt cX8_sitterAt 4 (some .int) 1 0 0 n [.ref s, .ref c, .int (nI t)] (gt_enc w) (some (.int (gx_first (fun p => V 2 p = t + 1) 0 (K 0 2)))) (gt_enc (w)) := by
  refine gt_C_of (own := RX8) (nm := "sitterAt") rfl rfl (by decide +kernel) (Nat.le_of_ble_eq_true rfl) ?_
  show gt_A _ _ _ _ _ _ _ _ _ _ _ [(0, .ref s), (1, .ref c), (2, .int (nI t))] _ _
  refine ga_iconst (nI 0) dX8_sitterAt_0 (by decide) ?_
  refine gs_istore_n [(0, _), (1, _), (2, _), (3, _)] dX8_sitterAt_1 (by decide) rfl rfl ?_
  have loop : ∀ k p, p + k = K 0 2 → gx_first (fun p => V 2 p = t + 1) 0 (K 0 2) = gx_first (fun p => V 2 p = t + 1) p k → gt_A l G RX8 "sitterAt" cX8_sitterAt 4 (some .int) (gt_rm 1 0 0) (gt_Z G (n + 0) 0 0 (some (.int (gx_first (fun p => V 2 p = t + 1) 0 (K 0 2)))) (gt_enc (w))) (n, 0, 0) 2 [(0, .ref s), (1, .ref c), (2, .int (nI t)), (3, .int (nI p))] [] (gt_enc w) := by
    intro k
    induction k with
    | zero =>
      intro p ht hp
      have et : p = K 0 2 := by omega
      refine ga_iload_n 3 dX8_sitterAt_2 rfl ?_
      refine ga_aload_n 1 dX8_sitterAt_3 rfl ?_
      refine ga_get kf_X8_51 (shC hc _) (gv hK.1.2.2.1) dX8_sitterAt_4 ?_
      refine ga_icmp_ge 28 dX8_sitterAt_7 (by decide) (fun c_7 => ?_) (fun c_7 => absurd (nI_le (by omega) (by have := kw.2.2.1; omega)) c_7)
      refine ga_iconst ((-1)) dX8_sitterAt_28 (by decide) ?_
      exact ga_iret dX8_sitterAt_29 (gv (by rw [hp]; rfl)) rfl
    | succ k ih =>
      intro p ht hp
      have hb : V 2 p < 2 ^ 30 := by have := vw.2.2.1 p (by omega); have := kw.2.1; omega
      refine ga_iload_n 3 dX8_sitterAt_2 rfl ?_
      refine ga_aload_n 1 dX8_sitterAt_3 rfl ?_
      refine ga_get kf_X8_51 (shC hc _) (gv hK.1.2.2.1) dX8_sitterAt_4 ?_
      refine ga_icmp_ge 28 dX8_sitterAt_7 (by decide) (fun c_7 => absurd c_7 (nI_ge (by omega) (by have := kw.2.2.1; omega))) (fun c_7 => ?_)
      refine ga_aload_n 0 dX8_sitterAt_10 rfl ?_
      refine ga_get kf_X8_15 (shS hs _) rfl dX8_sitterAt_11 ?_
      refine ga_iload_n 3 dX8_sitterAt_14 rfl ?_
      refine gl_S2 hs hV kw (by omega) dX8_sitterAt_15 ?_
      refine ga_iload_n 2 dX8_sitterAt_16 rfl ?_
      refine ga_icmp_ne 22 dX8_sitterAt_17 (by decide) (fun c_17 => ?_) (fun c_17 => ?_)
      · refine gs_iincN 3 1 [(0, _), (1, _), (2, _), (3, _)] dX8_sitterAt_22 rfl (by decide) (by decide) rfl rfl ?_
        refine ga_goto 2 dX8_sitterAt_25 (by decide) ?_
        exact ih (p + 1) (by omega) (by rw [hp]; exact if_neg (fun q => c_17 ((gx_seat_eq hb (by omega)).mpr q)))
      · refine ga_iload_n 3 dX8_sitterAt_20 rfl ?_
        exact ga_iret dX8_sitterAt_21 (gv (by rw [hp]; exact if_pos ((gx_seat_eq hb (by omega)).mp c_17))) rfl
  exact loop (K 0 2) 0 (by omega) rfl
set_option maxRecDepth 100000 in
set_option maxHeartbeats 4000000 in
theorem c_X8_sitting {l : Launch} {G : gt_G} {n : Nat} {w : gt_W} {s c : Nat} {K V : gx_K} {m : Int32} (hc : gt_isC c) (hK : gx_Co w c K) (kw : gx_KW K) (hs : gt_isS s) (hV : gx_St w s K V m) (vw : gx_VW K V) : gt_C l G yX8_sitting cX8_sitting 4 (some .int) 1 0 0 n [.ref s, .ref c] (gt_enc w) (some (.int (gx_set (fun p => ¬ V 2 p = 0) (K 0 2)))) (gt_enc (w)) := by
  refine gt_C_of (own := RX8) (nm := "sitting") rfl rfl (by decide +kernel) (Nat.le_of_ble_eq_true rfl) ?_
  show gt_A _ _ _ _ _ _ _ _ _ _ _ [(0, .ref s), (1, .ref c)] _ _
  refine ga_iconst (nI 0) dX8_sitting_0 (by decide) ?_
  refine gs_istore_n [(0, _), (1, _), (2, _)] dX8_sitting_1 (by decide) rfl rfl ?_
  refine ga_iconst (nI 0) dX8_sitting_2 (by decide) ?_
  refine gs_istore_n [(0, _), (1, _), (2, _), (3, _)] dX8_sitting_3 (by decide) rfl rfl ?_
  have loop : ∀ k t, t + k = K 0 2 → gt_A l G RX8 "sitting" cX8_sitting 4 (some .int) (gt_rm 1 0 0) (gt_Z G (n + 0) 0 0 (some (.int (gx_set (fun p => ¬ V 2 p = 0) (K 0 2)))) (gt_enc (w))) (n, 0, 0) 4 [(0, .ref s), (1, .ref c), (2, .int (gx_set (fun p => ¬ V 2 p = 0) t)), (3, .int (nI t))] [] (gt_enc w) := by
    intro k
    induction k with
    | zero =>
      intro t ht
      have et : t = K 0 2 := by omega
      refine ga_iload_n 3 dX8_sitting_4 rfl ?_
      refine ga_aload_n 1 dX8_sitting_5 rfl ?_
      refine ga_get kf_X8_51 (shC hc _) (gv hK.1.2.2.1) dX8_sitting_6 ?_
      refine ga_icmp_ge 34 dX8_sitting_9 (by decide) (fun c_9 => ?_) (fun c_9 => absurd (nI_le (by omega) (by have := kw.2.2.1; omega)) c_9)
      refine ga_iload_n 2 dX8_sitting_34 rfl ?_
      exact ga_iret dX8_sitting_35 (gv (by rw [et])) rfl
    | succ k ih =>
      intro t ht
      have hb : V 2 t < 2 ^ 30 := by have := vw.2.2.1 t (by omega); have := kw.2.1; omega
      refine ga_iload_n 3 dX8_sitting_4 rfl ?_
      refine ga_aload_n 1 dX8_sitting_5 rfl ?_
      refine ga_get kf_X8_51 (shC hc _) (gv hK.1.2.2.1) dX8_sitting_6 ?_
      refine ga_icmp_ge 34 dX8_sitting_9 (by decide) (fun c_9 => absurd c_9 (nI_ge (by omega) (by have := kw.2.2.1; omega))) (fun c_9 => ?_)
      refine ga_aload_n 0 dX8_sitting_12 rfl ?_
      refine ga_get kf_X8_15 (shS hs _) rfl dX8_sitting_13 ?_
      refine ga_iload_n 3 dX8_sitting_16 rfl ?_
      refine gl_S2 hs hV kw (by omega) dX8_sitting_17 ?_
      refine ga_iconst ((-1)) dX8_sitting_18 (by decide) ?_
      refine ga_icmp_eq 28 dX8_sitting_19 (by decide) (fun c_19 => ?_) (fun c_19 => ?_)
      · refine gs_iincN 3 1 [(0, _), (1, _), (2, _), (3, _)] dX8_sitting_28 rfl (by decide) (by decide) rfl rfl ?_
        refine ga_goto 4 dX8_sitting_31 (by decide) ?_
        have h9 := ih (t + 1) (by omega)
        first | (rw [gx_set_f (fun q => q ((gx_seat_m1 hb).mp c_19))] at h9; exact h9) | (rw [gx_set_t (fun q => c_19 ((gx_seat_m1 hb).mpr q))] at h9; exact h9)
      · refine ga_iload_n 2 dX8_sitting_22 rfl ?_
        refine ga_iconst (nI 1) dX8_sitting_23 (by decide) ?_
        refine ga_iload_n 3 dX8_sitting_24 rfl ?_
        refine ga_ishl dX8_sitting_25 ?_
        refine ga_ior dX8_sitting_26 ?_
        refine gs_istore_n [(0, _), (1, _), (2, _), (3, _)] dX8_sitting_27 (by decide) rfl rfl ?_
        refine gs_iincN 3 1 [(0, _), (1, _), (2, _), (3, _)] dX8_sitting_28 rfl (by decide) (by decide) rfl rfl ?_
        refine ga_goto 4 dX8_sitting_31 (by decide) ?_
        have h9 := ih (t + 1) (by omega)
        first | (rw [gx_set_f (fun q => q ((gx_seat_m1 hb).mp c_19))] at h9; exact h9) | (rw [gx_set_t (fun q => c_19 ((gx_seat_m1 hb).mpr q))] at h9; exact h9)
  exact loop (K 0 2) 0 (by omega)
set_option maxRecDepth 100000 in
set_option maxHeartbeats 4000000 in
theorem c_X8_woundMore {l : Launch} {G : gt_G} {n : Nat} {w : gt_W} {a b c : Nat} (h1 : a ≤ 99) (h2 : b ≤ 9) (h3 : c ≤ 99) : gt_C l G yX8_woundMore cX8_woundMore 3 (some .int) 1 0 0 n [.int (nI a), .int (nI b), .int (nI c)] (gt_enc w) (some (.int (nI (gx_more a b c)))) (gt_enc (w)) := by
  refine gt_C_of (own := RX8) (nm := "woundMore") rfl rfl (by decide +kernel) (Nat.le_of_ble_eq_true rfl) ?_
  show gt_A _ _ _ _ _ _ _ _ _ _ _ [(0, .int (nI a)), (1, .int (nI b)), (2, .int (nI c))] _ _
  refine ga_bipush (nI 99) dX8_woundMore_0 (by decide) ?_
  refine ga_iload_n 0 dX8_woundMore_2 rfl ?_
  refine ga_iconst (nI 0) dX8_woundMore_3 (by decide) ?_
  refine ga_iload_n 1 dX8_woundMore_4 rfl ?_
  refine ga_iload_n 2 dX8_woundMore_5 rfl ?_
  refine ga_iconst (nI 5) dX8_woundMore_6 (by decide) ?_
  refine ga_idiv dX8_woundMore_7 (by decide) ?_
  refine ga_isub dX8_woundMore_8 ?_
  refine ga_max km_X8_82 kmath_max (gt_room0 (by decide)) (Nat.le_of_ble_eq_true rfl) dX8_woundMore_9 ?_
  refine ga_iadd dX8_woundMore_12 ?_
  refine ga_min km_X8_76 kmath_min (gt_room0 (by decide)) (Nat.le_of_ble_eq_true rfl) dX8_woundMore_13 ?_
  exact ga_iret dX8_woundMore_16 (gv (gx_moreN h1 h2 h3).symm) rfl
set_option maxRecDepth 100000 in
set_option maxHeartbeats 4000000 in
theorem c_X8_seaAt {l : Launch} {G : gt_G} {n : Nat} {w : gt_W} {s c : Nat} {K V : gx_K} {m : Int32} {x : Nat} (hc : gt_isC c) (hK : gx_Co w c K) (kw : gx_KW K) (hs : gt_isS s) (hV : gx_St w s K V m) (vw : gx_VW K V) (hx : x < 11) : gt_C l G yX8_seaAt cX8_seaAt 5 (some .int) 2 0 0 n [.ref s, .ref c, .int (nI x)] (gt_enc w) (some (.int (nI (gx_sea K V x)))) (gt_enc (w)) := by
  refine gt_C_of (own := RX8) (nm := "seaAt") rfl rfl (by decide +kernel) (Nat.le_of_ble_eq_true rfl) ?_
  show gt_A _ _ _ _ _ _ _ _ _ _ _ [(0, .ref s), (1, .ref c), (2, .int (nI x))] _ _
  refine ga_iconst (nI 0) dX8_seaAt_0 (by decide) ?_
  refine gs_istore_n [(0, _), (1, _), (2, _), (3, _)] dX8_seaAt_1 (by decide) rfl rfl ?_
  refine ga_iconst (nI 0) dX8_seaAt_2 (by decide) ?_
  refine gs_istore [(0, _), (1, _), (2, _), (3, _), (4, _)] dX8_seaAt_3 (by decide) rfl rfl ?_
  have loop : ∀ k t, t + k = K 0 1 → gt_A l G RX8 "seaAt" cX8_seaAt 5 (some .int) (gt_rm 2 0 0) (gt_Z G (n + 0) 0 0 (some (.int (nI (gx_sea K V x)))) (gt_enc (w))) (n, 0, 0) 5 [(0, .ref s), (1, .ref c), (2, .int (nI x)), (3, .int (nI (gx_sum (fun t => gx_bears (V 1 t) (K 3 t) (K 2 t) x) t))), (4, .int (nI t))] [] (gt_enc w) := by
    intro k
    induction k with
    | zero =>
      intro t ht
      have et : t = K 0 1 := by omega
      refine ga_iload 4 dX8_seaAt_5 rfl ?_
      refine ga_aload_n 1 dX8_seaAt_7 rfl ?_
      refine ga_get kf_X8_85 (shC hc _) (gv hK.1.2.1) dX8_seaAt_8 ?_
      refine ga_icmp_ge 37 dX8_seaAt_11 (by decide) (fun c_11 => ?_) (fun c_11 => absurd (nI_le (by omega) (by have := kw.2.1; omega)) c_11)
      refine ga_iload_n 3 dX8_seaAt_37 rfl ?_
      exact ga_iret dX8_seaAt_38 (gv (by rw [et]; rfl)) rfl
    | succ k ih =>
      intro t ht
      refine ga_iload 4 dX8_seaAt_5 rfl ?_
      refine ga_aload_n 1 dX8_seaAt_7 rfl ?_
      refine ga_get kf_X8_85 (shC hc _) (gv hK.1.2.1) dX8_seaAt_8 ?_
      refine ga_icmp_ge 37 dX8_seaAt_11 (by decide) (fun c_11 => absurd c_11 (nI_ge (by omega) (by have := kw.2.1; omega))) (fun c_11 => ?_)
      refine ga_iload_n 3 dX8_seaAt_14 rfl ?_
      refine ga_aload_n 1 dX8_seaAt_15 rfl ?_
      refine ga_iload 4 dX8_seaAt_16 rfl ?_
      refine ga_aload_n 0 dX8_seaAt_18 rfl ?_
      refine ga_get kf_X8_9 (shS hs _) rfl dX8_seaAt_19 ?_
      refine ga_iload 4 dX8_seaAt_22 rfl ?_
      refine gl_S1 hs hV kw (by omega) dX8_seaAt_24 ?_
      refine ga_iload_n 2 dX8_seaAt_25 rfl ?_
      refine ga_V3 km_X8_98 kv_X0_bears (c_X0_bears hc hK kw (by omega) (vw.2.1 t (by omega)) hx) (shC hc _) rfl rfl (gt_rc0 (by decide)) (Nat.le_of_ble_eq_true rfl) dX8_seaAt_26 ?_
      refine ga_iadd dX8_seaAt_29 ?_
      refine gs_istore_n [(0, _), (1, _), (2, _), (3, _), (4, _)] dX8_seaAt_30 (by decide) rfl rfl ?_
      refine gs_iincN 4 1 [(0, _), (1, _), (2, _), (3, _), (4, _)] dX8_seaAt_31 rfl (by decide) (by decide) rfl rfl ?_
      refine ga_goto 5 dX8_seaAt_34 (by decide) ?_
      have h9 := ih (t + 1) (by omega)
      rw [show gx_sum (fun t => gx_bears (V 1 t) (K 3 t) (K 2 t) x) (t + 1) = gx_sum (fun t => gx_bears (V 1 t) (K 3 t) (K 2 t) x) t + gx_bears (V 1 t) (K 3 t) (K 2 t) x from rfl, ← nI_add] at h9
      exact h9
  exact loop (K 0 1) 0 (by omega)
set_option maxRecDepth 100000 in
set_option maxHeartbeats 4000000 in
theorem c_X8_depthAt {l : Launch} {G : gt_G} {n : Nat} {w : gt_W} {s c : Nat} {K V : gx_K} {m : Int32} {x : Nat} (hc : gt_isC c) (hK : gx_Co w c K) (kw : gx_KW K) (hs : gt_isS s) (hV : gx_St w s K V m) (vw : gx_VW K V) (hx : x < K 0 0) : gt_C l G yX8_depthAt cX8_depthAt 3 (some .int) 3 0 0 n [.ref s, .ref c, .int (nI x)] (gt_enc w) (some (.int (nI (gx_dep K V x)))) (gt_enc (w)) := by
  refine gt_C_of (own := RX8) (nm := "depthAt") rfl rfl (by decide +kernel) (Nat.le_of_ble_eq_true rfl) ?_
  show gt_A _ _ _ _ _ _ _ _ _ _ _ [(0, .ref s), (1, .ref c), (2, .int (nI x))] _ _
  refine ga_iconst (nI 0) dX8_depthAt_0 (by decide) ?_
  refine ga_aload_n 0 dX8_depthAt_1 rfl ?_
  refine ga_aload_n 1 dX8_depthAt_2 rfl ?_
  refine ga_iload_n 2 dX8_depthAt_3 rfl ?_
  refine ga_V2 km_X8_101 kv_X8_seaAt (c_X8_seaAt hc hK kw hs hV vw (by have := kw.1; omega)) (shS hs _) rfl rfl (gt_rc0 (by decide)) (Nat.le_of_ble_eq_true rfl) dX8_depthAt_4 ?_
  refine ga_aload_n 1 dX8_depthAt_7 rfl ?_
  refine ga_get kf_X8_104 (shC hc _) rfl dX8_depthAt_8 ?_
  refine ga_iload_n 2 dX8_depthAt_11 rfl ?_
  refine gl_C1 hc hK kw hx dX8_depthAt_12 ?_
  refine ga_isub dX8_depthAt_13 ?_
  refine ga_max km_X8_82 kmath_max (gt_room0 (by decide)) (Nat.le_of_ble_eq_true rfl) dX8_depthAt_14 ?_
  exact ga_iret dX8_depthAt_17 (gv (gx_max0 (by have := gx_sea_le kw vw x; omega) (by have := kw.2.2.2.2.1 x hx; omega)).symm) rfl
set_option maxRecDepth 100000 in
set_option maxHeartbeats 4000000 in
theorem c_X8_wet {l : Launch} {G : gt_G} {n : Nat} {w : gt_W} {s c : Nat} {K V : gx_K} {m : Int32} (hc : gt_isC c) (hK : gx_Co w c K) (kw : gx_KW K) (hs : gt_isS s) (hV : gx_St w s K V m) (vw : gx_VW K V) : gt_C l G yX8_wet cX8_wet 4 (some .int) 4 0 0 n [.ref s, .ref c] (gt_enc w) (some (.int (gx_set (fun x => 0 < gx_dep K V x) (K 0 0)))) (gt_enc (w)) := by
  refine gt_C_of (own := RX8) (nm := "wet") rfl rfl (by decide +kernel) (Nat.le_of_ble_eq_true rfl) ?_
  show gt_A _ _ _ _ _ _ _ _ _ _ _ [(0, .ref s), (1, .ref c)] _ _
  refine ga_iconst (nI 0) dX8_wet_0 (by decide) ?_
  refine gs_istore_n [(0, _), (1, _), (2, _)] dX8_wet_1 (by decide) rfl rfl ?_
  refine ga_iconst (nI 0) dX8_wet_2 (by decide) ?_
  refine gs_istore_n [(0, _), (1, _), (2, _), (3, _)] dX8_wet_3 (by decide) rfl rfl ?_
  have loop : ∀ k t, t + k = K 0 0 → gt_A l G RX8 "wet" cX8_wet 4 (some .int) (gt_rm 4 0 0) (gt_Z G (n + 0) 0 0 (some (.int (gx_set (fun x => 0 < gx_dep K V x) (K 0 0)))) (gt_enc (w))) (n, 0, 0) 4 [(0, .ref s), (1, .ref c), (2, .int (gx_set (fun x => 0 < gx_dep K V x) t)), (3, .int (nI t))] [] (gt_enc w) := by
    intro k
    induction k with
    | zero =>
      intro t ht
      have et : t = K 0 0 := by omega
      refine ga_iload_n 3 dX8_wet_4 rfl ?_
      refine ga_aload_n 1 dX8_wet_5 rfl ?_
      refine ga_get kf_X8_107 (shC hc _) (gv hK.1.1) dX8_wet_6 ?_
      refine ga_icmp_ge 33 dX8_wet_9 (by decide) (fun c_9 => ?_) (fun c_9 => absurd (nI_le (by omega) (by have := kw.1; omega)) c_9)
      refine ga_iload_n 2 dX8_wet_33 rfl ?_
      exact ga_iret dX8_wet_34 (gv (by rw [et])) rfl
    | succ k ih =>
      intro t ht
      have hb : gx_dep K V t < 2 ^ 30 := by have := gx_sea_le kw vw t; unfold gx_dep; omega
      refine ga_iload_n 3 dX8_wet_4 rfl ?_
      refine ga_aload_n 1 dX8_wet_5 rfl ?_
      refine ga_get kf_X8_107 (shC hc _) (gv hK.1.1) dX8_wet_6 ?_
      refine ga_icmp_ge 33 dX8_wet_9 (by decide) (fun c_9 => absurd c_9 (nI_ge (by omega) (by have := kw.1; omega))) (fun c_9 => ?_)
      refine ga_aload_n 0 dX8_wet_12 rfl ?_
      refine ga_aload_n 1 dX8_wet_13 rfl ?_
      refine ga_iload_n 3 dX8_wet_14 rfl ?_
      refine ga_V2 km_X8_91 kv_X8_depthAt (c_X8_depthAt hc hK kw hs hV vw (by omega)) (shS hs _) rfl rfl (gt_rc0 (by decide)) (Nat.le_of_ble_eq_true rfl) dX8_wet_15 ?_
      refine ga_if_le 27 dX8_wet_18 (by decide) (fun c_18 => ?_) (fun c_18 => ?_)
      · refine gs_iincN 3 1 [(0, _), (1, _), (2, _), (3, _)] dX8_wet_27 rfl (by decide) (by decide) rfl rfl ?_
        refine ga_goto 4 dX8_wet_30 (by decide) ?_
        have h9 := ih (t + 1) (by omega)
        first | (rw [gx_set_f (P := fun x => 0 < gx_dep K V x) (k := t) (fun q => absurd c_18 (nI_nle q (by omega)))] at h9; exact h9) | (rw [gx_set_t (P := fun x => 0 < gx_dep K V x) (k := t) (Nat.pos_of_ne_zero (fun q => c_18 (by rw [q]; decide)))] at h9; exact h9)
      · refine ga_iload_n 2 dX8_wet_21 rfl ?_
        refine ga_iconst (nI 1) dX8_wet_22 (by decide) ?_
        refine ga_iload_n 3 dX8_wet_23 rfl ?_
        refine ga_ishl dX8_wet_24 ?_
        refine ga_ior dX8_wet_25 ?_
        refine gs_istore_n [(0, _), (1, _), (2, _), (3, _)] dX8_wet_26 (by decide) rfl rfl ?_
        refine gs_iincN 3 1 [(0, _), (1, _), (2, _), (3, _)] dX8_wet_27 rfl (by decide) (by decide) rfl rfl ?_
        refine ga_goto 4 dX8_wet_30 (by decide) ?_
        have h9 := ih (t + 1) (by omega)
        first | (rw [gx_set_f (P := fun x => 0 < gx_dep K V x) (k := t) (fun q => absurd c_18 (nI_nle q (by omega)))] at h9; exact h9) | (rw [gx_set_t (P := fun x => 0 < gx_dep K V x) (k := t) (Nat.pos_of_ne_zero (fun q => c_18 (by rw [q]; decide)))] at h9; exact h9)
  exact loop (K 0 0) 0 (by omega)
set_option maxRecDepth 100000 in
set_option maxHeartbeats 4000000 in
theorem c_X8_dryGround {l : Launch} {G : gt_G} {n : Nat} {w : gt_W} {s c : Nat} {K V : gx_K} {m : Int32} (hc : gt_isC c) (hK : gx_Co w c K) (kw : gx_KW K) (hs : gt_isS s) (hV : gx_St w s K V m) (vw : gx_VW K V) : gt_C l G yX8_dryGround cX8_dryGround 4 (some .int) 4 0 0 n [.ref s, .ref c] (gt_enc w) (some (.int (nI (gx_sum (fun x => if gx_dep K V x = 0 then K 1 x else 0) (K 0 0))))) (gt_enc (w)) := by
  refine gt_C_of (own := RX8) (nm := "dryGround") rfl rfl (by decide +kernel) (Nat.le_of_ble_eq_true rfl) ?_
  show gt_A _ _ _ _ _ _ _ _ _ _ _ [(0, .ref s), (1, .ref c)] _ _
  refine ga_iconst (nI 0) dX8_dryGround_0 (by decide) ?_
  refine gs_istore_n [(0, _), (1, _), (2, _)] dX8_dryGround_1 (by decide) rfl rfl ?_
  refine ga_iconst (nI 0) dX8_dryGround_2 (by decide) ?_
  refine gs_istore_n [(0, _), (1, _), (2, _), (3, _)] dX8_dryGround_3 (by decide) rfl rfl ?_
  have loop : ∀ k t, t + k = K 0 0 → gt_A l G RX8 "dryGround" cX8_dryGround 4 (some .int) (gt_rm 4 0 0) (gt_Z G (n + 0) 0 0 (some (.int (nI (gx_sum (fun x => if gx_dep K V x = 0 then K 1 x else 0) (K 0 0))))) (gt_enc (w))) (n, 0, 0) 4 [(0, .ref s), (1, .ref c), (2, .int (nI (gx_sum (fun x => if gx_dep K V x = 0 then K 1 x else 0) t))), (3, .int (nI t))] [] (gt_enc w) := by
    intro k
    induction k with
    | zero =>
      intro t ht
      have et : t = K 0 0 := by omega
      refine ga_iload_n 3 dX8_dryGround_4 rfl ?_
      refine ga_aload_n 1 dX8_dryGround_5 rfl ?_
      refine ga_get kf_X8_107 (shC hc _) (gv hK.1.1) dX8_dryGround_6 ?_
      refine ga_icmp_ge 36 dX8_dryGround_9 (by decide) (fun c_9 => ?_) (fun c_9 => absurd (nI_le (by omega) (by have := kw.1; omega)) c_9)
      refine ga_iload_n 2 dX8_dryGround_36 rfl ?_
      exact ga_iret dX8_dryGround_37 (gv (by rw [et])) rfl
    | succ k ih =>
      intro t ht
      have hb : gx_dep K V t < 2 ^ 30 := by have := gx_sea_le kw vw t; unfold gx_dep; omega
      have e9 : gx_sum (fun x => if gx_dep K V x = 0 then K 1 x else 0) (t + 1) = gx_sum (fun x => if gx_dep K V x = 0 then K 1 x else 0) t + (if gx_dep K V t = 0 then K 1 t else 0) := rfl
      refine ga_iload_n 3 dX8_dryGround_4 rfl ?_
      refine ga_aload_n 1 dX8_dryGround_5 rfl ?_
      refine ga_get kf_X8_107 (shC hc _) (gv hK.1.1) dX8_dryGround_6 ?_
      refine ga_icmp_ge 36 dX8_dryGround_9 (by decide) (fun c_9 => absurd c_9 (nI_ge (by omega) (by have := kw.1; omega))) (fun c_9 => ?_)
      refine ga_aload_n 0 dX8_dryGround_12 rfl ?_
      refine ga_aload_n 1 dX8_dryGround_13 rfl ?_
      refine ga_iload_n 3 dX8_dryGround_14 rfl ?_
      refine ga_V2 km_X8_91 kv_X8_depthAt (c_X8_depthAt hc hK kw hs hV vw (by omega)) (shS hs _) rfl rfl (gt_rc0 (by decide)) (Nat.le_of_ble_eq_true rfl) dX8_dryGround_15 ?_
      refine ga_if_ne 30 dX8_dryGround_18 (by decide) (fun c_18 => ?_) (fun c_18 => ?_)
      · refine gs_iincN 3 1 [(0, _), (1, _), (2, _), (3, _)] dX8_dryGround_30 rfl (by decide) (by decide) rfl rfl ?_
        refine ga_goto 4 dX8_dryGround_33 (by decide) ?_
        have h9 := ih (t + 1) (by omega)
        first | (rw [e9, if_neg (fun q => c_18 (by rw [q]; decide)), Nat.add_zero] at h9; exact h9) | (rw [e9, if_pos (Decidable.byContradiction fun q => nI_ne0 (Nat.pos_of_ne_zero q) (by omega) c_18), ← nI_add] at h9; exact h9)
      · refine ga_iload_n 2 dX8_dryGround_21 rfl ?_
        refine ga_aload_n 1 dX8_dryGround_22 rfl ?_
        refine ga_get kf_X8_104 (shC hc _) rfl dX8_dryGround_23 ?_
        refine ga_iload_n 3 dX8_dryGround_26 rfl ?_
        refine gl_C1 hc hK kw (by omega) dX8_dryGround_27 ?_
        refine ga_iadd dX8_dryGround_28 ?_
        refine gs_istore_n [(0, _), (1, _), (2, _), (3, _)] dX8_dryGround_29 (by decide) rfl rfl ?_
        refine gs_iincN 3 1 [(0, _), (1, _), (2, _), (3, _)] dX8_dryGround_30 rfl (by decide) (by decide) rfl rfl ?_
        refine ga_goto 4 dX8_dryGround_33 (by decide) ?_
        have h9 := ih (t + 1) (by omega)
        first | (rw [e9, if_neg (fun q => c_18 (by rw [q]; decide)), Nat.add_zero] at h9; exact h9) | (rw [e9, if_pos (Decidable.byContradiction fun q => nI_ne0 (Nat.pos_of_ne_zero q) (by omega) c_18), ← nI_add] at h9; exact h9)
  exact loop (K 0 0) 0 (by omega)
set_option maxRecDepth 100000 in
set_option maxHeartbeats 4000000 in
theorem c_X8_unlikeness {l : Launch} {G : gt_G} {n : Nat} {w : gt_W} {s c : Nat} {K V : gx_K} {m : Int32} {x : Nat} (hc : gt_isC c) (hK : gx_Co w c K) (kw : gx_KW K) (hs : gt_isS s) (hV : gx_St w s K V m) (vw : gx_VW K V) (hx : x + 1 < K 0 0) : gt_C l G yX8_unlikeness cX8_unlikeness 3 (some .int) 3 0 0 n [.ref s, .ref c, .int (nI x)] (gt_enc w) (some (.int (nI (gx_dist (gx_sea K V x) (gx_sea K V (x + 1)))))) (gt_enc (w)) := by
  refine gt_C_of (own := RX8) (nm := "unlikeness") rfl rfl (by decide +kernel) (Nat.le_of_ble_eq_true rfl) ?_
  show gt_A _ _ _ _ _ _ _ _ _ _ _ [(0, .ref s), (1, .ref c), (2, .int (nI x))] _ _
  refine ga_aload_n 0 dX8_unlikeness_0 rfl ?_
  refine ga_aload_n 1 dX8_unlikeness_1 rfl ?_
  refine ga_iload_n 2 dX8_unlikeness_2 rfl ?_
  refine ga_V2 km_X8_101 kv_X8_seaAt (c_X8_seaAt hc hK kw hs hV vw (by have := kw.1; omega)) (shS hs _) rfl rfl (gt_rc0 (by decide)) (Nat.le_of_ble_eq_true rfl) dX8_unlikeness_3 ?_
  refine ga_aload_n 0 dX8_unlikeness_6 rfl ?_
  refine ga_aload_n 1 dX8_unlikeness_7 rfl ?_
  refine ga_iload_n 2 dX8_unlikeness_8 rfl ?_
  refine ga_iconst (nI 1) dX8_unlikeness_9 (by decide) ?_
  refine ga_iadd dX8_unlikeness_10 ?_
  refine ga_top (nI (x + 1)) (nI_add x 1) ?_
  refine ga_V2 km_X8_101 kv_X8_seaAt (c_X8_seaAt hc hK kw hs hV vw (by have := kw.1; omega)) (shS hs _) rfl rfl (gt_rc0 (by decide)) (Nat.le_of_ble_eq_true rfl) dX8_unlikeness_11 ?_
  refine ga_isub dX8_unlikeness_14 ?_
  refine ga_abs km_X8_117 kmath_abs (gt_room0 (by decide)) (Nat.le_of_ble_eq_true rfl) dX8_unlikeness_15 ?_
  exact ga_iret dX8_unlikeness_18 (gv (gx_absN (by have := gx_sea_le kw vw x; omega) (by have := gx_sea_le kw vw (x + 1); omega)).symm) rfl
