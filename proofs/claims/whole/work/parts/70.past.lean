/-- an image -/
def bI (s : Nat) : List gt_Ob := oO 2 [.ref (s + 1), .int 0, .int 0] :: bS (s + 1)
set_option maxRecDepth 100000 in
set_option maxHeartbeats 4000000 in
theorem c_X2_init {l : Launch} {G : gt_G} {L0 : List gt_Ob} {n : Nat} (hn : L0.length = n) : gt_C l G yX2_init cX2_init 1 none 2 5 28 (n + 1) [.ref (n + 1)] (gt_lst (L0 ++ [oO 2 [.null, .int 0, .int 0]])) none (gt_lst (L0 ++ bI (n + 1))) := by
  have hn1 : (L0 ++ [oO 2 [.null, .int 0, .int 0]]).length = n + 1 := by rw [List.length_append, hn]; rfl
  refine gt_C_of (own := RX2) (nm := "<init>") rfl rfl (by decide +kernel) (Nat.le_of_ble_eq_true rfl) ?_
  show gt_A _ _ _ _ _ _ _ _ _ _ _ [(0, .ref (n + 1))] _ _
  refine ga_aload_n 0 dX2_init_0 rfl ?_
  refine ga_objInit km_X2_1 kobj (gt_roomC (by decide)) (Nat.le_of_ble_eq_true rfl) dX2_init_1 ?_
  refine ga_aload_n 0 dX2_init_4 rfl ?_
  refine ga_new kn_X2_7 rfl (by decide) (by decide) dX2_init_5 ?_
  refine ga_heap (gt_lst_push hn1) ?_
  refine ga_dup dX2_init_8 rfl ?_
  refine ga_callN (List.mem_of_getElem? (i := 9) rfl) kv_X8_init (c_X8_init hn1) (gt_rc1 (by decide) (by decide) (by decide)) (Nat.le_of_ble_eq_true rfl) dX2_init_9 ?_
  refine ga_heap (h' := gt_lst (L0 ++ ([oO 2 [.null, .int 0, .int 0]] ++ bS (n + 1 + 1)))) (by rw [List.append_assoc]) ?_
  refine ga_putF kp_X2_10 (gt_lst_at (i := 0) hn rfl) rfl rfl (Nat.le_of_ble_eq_true rfl) rfl dX2_init_12 ?_
  refine ga_heap (gt_lst_setA (i := 0) (ys := bI (n + 1)) hn (Nat.le_of_ble_eq_true rfl) rfl) ?_
  exact ga_vret dX2_init_15 rfl (fun _ _ q => q)
/-- the ring's states -/
def bSs (n : Nat) : Nat → List gt_Ob
  | 0 => []
  | t + 1 => bSs n t ++ bS (n + 2 + 5 * t + 1)
theorem bSs_len (n : Nat) : ∀ t, (bSs n t).length = 5 * t
  | 0 => rfl
  | t + 1 => by
    show (bSs n t ++ bS _).length = _
    rw [List.length_append, bSs_len n t]
    rfl
def gt_rf (n t : Nat) : Nat → Option Nat := fun i => if i < t then some (n + 2 + 5 * i + 1) else none
theorem gt_rf_0 (n : Nat) : gt_rf n 0 = fun _ => none := by
  funext i
  exact if_neg (Nat.not_lt_zero i)
theorem gt_rf_s (n : Nat) {t : Nat} (ht : t < 16) : va_up (gt_rf n t) (nI t).toNatClampNeg (some (n + 2 + 5 * t + 1)) = gt_rf n (t + 1) := by
  rw [nI_clamp (by omega)]
  funext i
  unfold va_up gt_rf
  by_cases e : i = t
  · rw [if_pos e, if_pos (by omega), e]
  · rw [if_neg e]
    by_cases q : i < t
    · rw [if_pos q, if_pos (by omega)]
    · rw [if_neg q, if_neg (by omega)]
def bY' (n t : Nat) : List gt_Ob := oO 4 [.ref (n + 1 + 1), .int 0, .int 0] :: oR 2 16 (gt_rf n t) :: bSs n t
abbrev bY (n : Nat) : List gt_Ob := bY' n 16
set_option maxRecDepth 100000 in
set_option maxHeartbeats 4000000 in
theorem c_X4_init {l : Launch} {G : gt_G} {L0 : List gt_Ob} {n : Nat} (hn : L0.length = n) : gt_C l G yX4_init cX4_init 2 none 2 81 464 (n + 1) [.ref (n + 1)] (gt_lst (L0 ++ [oO 4 [.null, .int 0, .int 0]])) none (gt_lst (L0 ++ bY n)) := by
  refine gt_C_of (own := RX4) (nm := "<init>") rfl rfl (by decide +kernel) (Nat.le_of_ble_eq_true rfl) ?_
  show gt_A _ _ _ _ _ _ _ _ _ _ _ [(0, .ref (n + 1))] _ _
  refine ga_aload_n 0 dX4_init_0 rfl ?_
  refine ga_objInit km_X4_3 kobj (gt_roomC (by decide)) (Nat.le_of_ble_eq_true rfl) dX4_init_1 ?_
  refine ga_aload_n 0 dX4_init_4 rfl ?_
  refine ga_bipush (nI 16) dX4_init_5 (by decide) ?_
  refine ga_newR (kd := 2) (M := 16) kl_X4_9 (fun s q => q.2.2.2.2.1) rfl (by decide) (by decide) (by decide) (by decide) (by decide) dX4_init_7 ?_
  refine ga_heap (gt_lst_pushA (k := 1) (ys := [oO 4 [.null, .int 0, .int 0], oR 2 16 (fun _ => none)]) hn rfl rfl) ?_
  refine ga_putF kp_X4_11 (gt_lst_at (i := 0) hn rfl) rfl rfl (Nat.le_of_ble_eq_true rfl) rfl dX4_init_10 ?_
  refine ga_heap (gt_lst_setA (i := 0) (ys := [oO 4 [.ref (n + 1 + 1), .int 0, .int 0], oR 2 16 (fun _ => none)]) hn (Nat.le_of_ble_eq_true rfl) rfl) ?_
  refine ga_iconst (nI 0) dX4_init_13 (by decide) ?_
  refine gs_istore_n [(0, _), (1, _)] dX4_init_14 (by decide) rfl rfl ?_
  have hb : ∀ t, (L0 ++ bY' n t).length = n + 2 + 5 * t := fun t => by rw [List.length_append, hn]; show n + ((bSs n t).length + 1 + 1) = _; rw [bSs_len]; omega
  have loop : ∀ k t, t + k = 16 → gt_A l G RX4 "<init>" cX4_init 2 none (gt_rm 2 81 464) (gt_Z G (n + 1 + 81) 81 464 none (gt_lst (L0 ++ bY n))) (n + 2 + 5 * t, 1 + 5 * t, 16 + 28 * t) 15 [(0, .ref (n + 1)), (1, .int (nI t))] [] (gt_lst (L0 ++ bY' n t)) := by
    intro k
    induction k with
    | zero =>
      intro t ht
      obtain rfl : t = 16 := by omega
      refine ga_iload_n 1 dX4_init_15 rfl ?_
      refine ga_bipush (nI 16) dX4_init_16 (by decide) ?_
      refine ga_icmp_ge 40 dX4_init_18 (by decide) (fun c_18 => ?_) (fun c_18 => absurd (by decide) c_18)
      exact ga_vret dX4_init_40 rfl (fun _ _ q => q)
    | succ k ih =>
      intro t ht
      refine ga_iload_n 1 dX4_init_15 rfl ?_
      refine ga_bipush (nI 16) dX4_init_16 (by decide) ?_
      refine ga_icmp_ge 40 dX4_init_18 (by decide) (fun c_18 => absurd c_18 (nI_ge (by omega) (by decide))) (fun c_18 => ?_)
      refine ga_aload_n 0 dX4_init_21 rfl ?_
      refine ga_get kf_X4_11 (gt_lst_at (i := 0) hn rfl) rfl dX4_init_22 ?_
      refine ga_iload_n 1 dX4_init_25 rfl ?_
      refine ga_new kn_X4_9 rfl (by show 1 + 5 * t + 1 ≤ 81; omega) (by show 16 + 28 * t + 6 ≤ 464; omega) dX4_init_26 ?_
      refine ga_heap (gt_lst_push (hb t)) ?_
      refine ga_dup dX4_init_29 rfl ?_
      refine ga_callN (List.mem_of_getElem? (i := 3) rfl) kv_X8_init (c_X8_init (hb t)) (gt_rc1 (by decide) (by omega) (by omega)) (Nat.le_of_ble_eq_true rfl) dX4_init_30 ?_
      refine ga_aast (a := n + 1 + 1) (kd := 2) (M := 16) (f := gt_rf n t) (ci := 8) (by rw [List.append_assoc]; exact gt_lst_at (i := 1) hn rfl) rfl (gt_lst_at (i := 0) (hb t) rfl) rfl (vp_in_nI (by omega) (by decide)) dX4_init_33 ?_
      refine ga_heap (h' := gt_lst (L0 ++ bY' n (t + 1))) (by rw [List.append_assoc]; exact gt_lst_setA (i := 1) hn (by show 1 < _ + 1 + 1; omega) (by rw [gt_rf_s n (by omega)]; rfl)) ?_
      refine gs_iincN 1 1 [(0, _), (1, _)] dX4_init_34 rfl (by decide) (by decide) rfl rfl ?_
      refine ga_goto 15 dX4_init_37 (by decide) ?_
      have h9 := ih (t + 1) (by omega)
      rw [show n + 2 + 5 * (t + 1) = n + 2 + 5 * t + 1 + 4 by omega, show 1 + 5 * (t + 1) = 1 + 5 * t + 1 + 4 by omega, show 16 + 28 * (t + 1) = 16 + 28 * t + 6 + 22 by omega] at h9
      exact h9
  have h9 := loop 16 0 (by omega)
  unfold bY' at h9
  rw [gt_rf_0] at h9
  exact h9
