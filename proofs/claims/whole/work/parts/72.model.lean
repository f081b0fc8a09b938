/-- what the reference's constructor makes -/
def bM : List gt_Ob := [oO 10 [.ref 162, .ref 163, .ref 164, .ref 165, .ref 166, .int 0, .ref 167, .ref 168, .long 0, .ref 169, .int 0, .int (-1), .ref 170, .int 0, .ref 171, .int 0, .ref 172, .int 0, .int 0, .int 0, .int 0, .int 0, .int 0, .int 0, .ref 173, .ref 174, .int 0, .int 0, .ref 175], oI 44 gt_z, oI 44 gt_z, oI 24 gt_z, oI 24 gt_z, oI 384 gt_z, oI 50 gt_z, oZ 2 gt_z, oI 240 gt_z, oI 18 gt_z, oI 18 gt_z, oI 30 gt_z, oI 6 gt_z, oI 6 gt_z, oI 1200 gt_z]
/-- the memory behind both constructors, ahead of begins -/
def gt_w0 : gt_W := fun a => if a = 1 then (fun j => if j = 1 then nI 4 else if j = 2 then nI 12 else if j = 11 then -1 else 0) else if a = 2 then (fun j => if j = 4 then -1 else 0) else if a = 161 then (fun j => if j = 11 then -1 else 0) else fun _ => 0
set_option maxRecDepth 100000 in
set_option maxHeartbeats 4000000 in
theorem c_X10_init {l : Launch} {G : gt_G} {L0 : List gt_Ob} (hn : L0.length = 160) (hs : ∀ k o, gt_enc gt_w0 k = some o → gt_lst (L0 ++ bM) k = some o) : gt_E l G yX10_init cX10_init 1 none 3 14 2090 161 [.ref 161] (gt_lst (L0 ++ [oO 10 [.null, .null, .null, .null, .null, .int 0, .null, .null, .long 0, .null, .int 0, .int 0, .null, .int 0, .null, .int 0, .null, .int 0, .int 0, .int 0, .int 0, .int 0, .int 0, .int 0, .null, .null, .int 0, .int 0, .null]])) (fun r w' => r = none ∧ (∀ c, c ≠ 161 → c ≠ 164 → c ≠ 168 → w' c = gt_w0 c) ∧ (∀ q, q ≠ 5 → q ≠ 13 → q ≠ 15 → q ≠ 17 → w' 161 q = gt_w0 161 q) ∧ w' 161 5 = nI 0 ∧ w' 161 13 = nI 0 ∧ w' 161 15 = nI 0 ∧ w' 161 17 = nI 0 ∧ w' 168 0 = nI 0 ∧ w' 168 1 = nI 0 ∧ ∀ K, gx_KW K → gx_mc (gt_w0 162) K → gx_ms (w' 164) K (gx_begin K) (nI 0)) := by
  refine gt_E_of (own := RX10) (nm := "<init>") rfl rfl (by decide +kernel) (Nat.le_of_ble_eq_true rfl) ?_
  show gt_A _ _ _ _ _ _ _ _ _ _ _ [(0, .ref 161)] _ _
  refine ga_aload_n 0 dX10_init_0 rfl ?_
  refine ga_objInit km_X10_1 kobj (gt_roomC (by decide)) (Nat.le_of_ble_eq_true rfl) dX10_init_1 ?_
  refine ga_aload_n 0 dX10_init_4 rfl ?_
  refine ga_bipush (nI 44) dX10_init_5 (by decide) ?_
  refine ga_newI karrI (M := 44) (by decide) (by decide) (by decide) (by decide) (by decide) dX10_init_7 ?_
  refine ga_heap (gt_lst_pushA (k := 1) (ys := [oO 10 [.null, .null, .null, .null, .null, .int 0, .null, .null, .long 0, .null, .int 0, .int 0, .null, .int 0, .null, .int 0, .null, .int 0, .int 0, .int 0, .int 0, .int 0, .int 0, .int 0, .null, .null, .int 0, .int 0, .null], oI 44 gt_z]) hn rfl rfl) ?_
  refine ga_putF kp_X10_7 (gt_lst_at (i := 0) hn rfl) rfl rfl (Nat.le_of_ble_eq_true rfl) rfl dX10_init_9 ?_
  refine ga_heap (gt_lst_setA (i := 0) (ys := [oO 10 [.ref 162, .null, .null, .null, .null, .int 0, .null, .null, .long 0, .null, .int 0, .int 0, .null, .int 0, .null, .int 0, .null, .int 0, .int 0, .int 0, .int 0, .int 0, .int 0, .int 0, .null, .null, .int 0, .int 0, .null], oI 44 gt_z]) hn (Nat.le_of_ble_eq_true rfl) rfl) ?_
  refine ga_aload_n 0 dX10_init_12 rfl ?_
  refine ga_bipush (nI 44) dX10_init_13 (by decide) ?_
  refine ga_newI karrI (M := 44) (by decide) (by decide) (by decide) (by decide) (by decide) dX10_init_15 ?_
  refine ga_heap (gt_lst_pushA (k := 2) (ys := [oO 10 [.ref 162, .null, .null, .null, .null, .int 0, .null, .null, .long 0, .null, .int 0, .int 0, .null, .int 0, .null, .int 0, .null, .int 0, .int 0, .int 0, .int 0, .int 0, .int 0, .int 0, .null, .null, .int 0, .int 0, .null], oI 44 gt_z, oI 44 gt_z]) hn rfl rfl) ?_
  refine ga_putF kp_X10_13 (gt_lst_at (i := 0) hn rfl) rfl rfl (Nat.le_of_ble_eq_true rfl) rfl dX10_init_17 ?_
  refine ga_heap (gt_lst_setA (i := 0) (ys := [oO 10 [.ref 162, .ref 163, .null, .null, .null, .int 0, .null, .null, .long 0, .null, .int 0, .int 0, .null, .int 0, .null, .int 0, .null, .int 0, .int 0, .int 0, .int 0, .int 0, .int 0, .int 0, .null, .null, .int 0, .int 0, .null], oI 44 gt_z, oI 44 gt_z]) hn (Nat.le_of_ble_eq_true rfl) rfl) ?_
  refine ga_aload_n 0 dX10_init_20 rfl ?_
  refine ga_bipush (nI 24) dX10_init_21 (by decide) ?_
  refine ga_newI karrI (M := 24) (by decide) (by decide) (by decide) (by decide) (by decide) dX10_init_23 ?_
  refine ga_heap (gt_lst_pushA (k := 3) (ys := [oO 10 [.ref 162, .ref 163, .null, .null, .null, .int 0, .null, .null, .long 0, .null, .int 0, .int 0, .null, .int 0, .null, .int 0, .null, .int 0, .int 0, .int 0, .int 0, .int 0, .int 0, .int 0, .null, .null, .int 0, .int 0, .null], oI 44 gt_z, oI 44 gt_z, oI 24 gt_z]) hn rfl rfl) ?_
  refine ga_putF kp_X10_16 (gt_lst_at (i := 0) hn rfl) rfl rfl (Nat.le_of_ble_eq_true rfl) rfl dX10_init_25 ?_
  refine ga_heap (gt_lst_setA (i := 0) (ys := [oO 10 [.ref 162, .ref 163, .ref 164, .null, .null, .int 0, .null, .null, .long 0, .null, .int 0, .int 0, .null, .int 0, .null, .int 0, .null, .int 0, .int 0, .int 0, .int 0, .int 0, .int 0, .int 0, .null, .null, .int 0, .int 0, .null], oI 44 gt_z, oI 44 gt_z, oI 24 gt_z]) hn (Nat.le_of_ble_eq_true rfl) rfl) ?_
  refine ga_aload_n 0 dX10_init_28 rfl ?_
  refine ga_bipush (nI 24) dX10_init_29 (by decide) ?_
  refine ga_newI karrI (M := 24) (by decide) (by decide) (by decide) (by decide) (by decide) dX10_init_31 ?_
  refine ga_heap (gt_lst_pushA (k := 4) (ys := [oO 10 [.ref 162, .ref 163, .ref 164, .null, .null, .int 0, .null, .null, .long 0, .null, .int 0, .int 0, .null, .int 0, .null, .int 0, .null, .int 0, .int 0, .int 0, .int 0, .int 0, .int 0, .int 0, .null, .null, .int 0, .int 0, .null], oI 44 gt_z, oI 44 gt_z, oI 24 gt_z, oI 24 gt_z]) hn rfl rfl) ?_
  refine ga_putF kp_X10_19 (gt_lst_at (i := 0) hn rfl) rfl rfl (Nat.le_of_ble_eq_true rfl) rfl dX10_init_33 ?_
  refine ga_heap (gt_lst_setA (i := 0) (ys := [oO 10 [.ref 162, .ref 163, .ref 164, .ref 165, .null, .int 0, .null, .null, .long 0, .null, .int 0, .int 0, .null, .int 0, .null, .int 0, .null, .int 0, .int 0, .int 0, .int 0, .int 0, .int 0, .int 0, .null, .null, .int 0, .int 0, .null], oI 44 gt_z, oI 44 gt_z, oI 24 gt_z, oI 24 gt_z]) hn (Nat.le_of_ble_eq_true rfl) rfl) ?_
  refine ga_aload_n 0 dX10_init_36 rfl ?_
  refine ga_sipush (nI 384) dX10_init_37 (by decide) ?_
  refine ga_newI karrI (M := 384) (by decide) (by decide) (by decide) (by decide) (by decide) dX10_init_40 ?_
  refine ga_heap (gt_lst_pushA (k := 5) (ys := [oO 10 [.ref 162, .ref 163, .ref 164, .ref 165, .null, .int 0, .null, .null, .long 0, .null, .int 0, .int 0, .null, .int 0, .null, .int 0, .null, .int 0, .int 0, .int 0, .int 0, .int 0, .int 0, .int 0, .null, .null, .int 0, .int 0, .null], oI 44 gt_z, oI 44 gt_z, oI 24 gt_z, oI 24 gt_z, oI 384 gt_z]) hn rfl rfl) ?_
  refine ga_putF kp_X10_22 (gt_lst_at (i := 0) hn rfl) rfl rfl (Nat.le_of_ble_eq_true rfl) rfl dX10_init_42 ?_
  refine ga_heap (gt_lst_setA (i := 0) (ys := [oO 10 [.ref 162, .ref 163, .ref 164, .ref 165, .ref 166, .int 0, .null, .null, .long 0, .null, .int 0, .int 0, .null, .int 0, .null, .int 0, .null, .int 0, .int 0, .int 0, .int 0, .int 0, .int 0, .int 0, .null, .null, .int 0, .int 0, .null], oI 44 gt_z, oI 44 gt_z, oI 24 gt_z, oI 24 gt_z, oI 384 gt_z]) hn (Nat.le_of_ble_eq_true rfl) rfl) ?_
  refine ga_aload_n 0 dX10_init_45 rfl ?_
  refine ga_bipush (nI 50) dX10_init_46 (by decide) ?_
  refine ga_newI karrI (M := 50) (by decide) (by decide) (by decide) (by decide) (by decide) dX10_init_48 ?_
  refine ga_heap (gt_lst_pushA (k := 6) (ys := [oO 10 [.ref 162, .ref 163, .ref 164, .ref 165, .ref 166, .int 0, .null, .null, .long 0, .null, .int 0, .int 0, .null, .int 0, .null, .int 0, .null, .int 0, .int 0, .int 0, .int 0, .int 0, .int 0, .int 0, .null, .null, .int 0, .int 0, .null], oI 44 gt_z, oI 44 gt_z, oI 24 gt_z, oI 24 gt_z, oI 384 gt_z, oI 50 gt_z]) hn rfl rfl) ?_
  refine ga_putF kp_X10_25 (gt_lst_at (i := 0) hn rfl) rfl rfl (Nat.le_of_ble_eq_true rfl) rfl dX10_init_50 ?_
  refine ga_heap (gt_lst_setA (i := 0) (ys := [oO 10 [.ref 162, .ref 163, .ref 164, .ref 165, .ref 166, .int 0, .ref 167, .null, .long 0, .null, .int 0, .int 0, .null, .int 0, .null, .int 0, .null, .int 0, .int 0, .int 0, .int 0, .int 0, .int 0, .int 0, .null, .null, .int 0, .int 0, .null], oI 44 gt_z, oI 44 gt_z, oI 24 gt_z, oI 24 gt_z, oI 384 gt_z, oI 50 gt_z]) hn (Nat.le_of_ble_eq_true rfl) rfl) ?_
  refine ga_aload_n 0 dX10_init_53 rfl ?_
  refine ga_iconst (nI 2) dX10_init_54 (by decide) ?_
  refine ga_newZ karrZ (M := 2) (by decide) (by decide) (by decide) (by decide) (by decide) dX10_init_55 ?_
  refine ga_heap (gt_lst_pushA (k := 7) (ys := [oO 10 [.ref 162, .ref 163, .ref 164, .ref 165, .ref 166, .int 0, .ref 167, .null, .long 0, .null, .int 0, .int 0, .null, .int 0, .null, .int 0, .null, .int 0, .int 0, .int 0, .int 0, .int 0, .int 0, .int 0, .null, .null, .int 0, .int 0, .null], oI 44 gt_z, oI 44 gt_z, oI 24 gt_z, oI 24 gt_z, oI 384 gt_z, oI 50 gt_z, oZ 2 gt_z]) hn rfl rfl) ?_
  refine ga_putF kp_X10_28 (gt_lst_at (i := 0) hn rfl) rfl rfl (Nat.le_of_ble_eq_true rfl) rfl dX10_init_57 ?_
  refine ga_heap (gt_lst_setA (i := 0) (ys := [oO 10 [.ref 162, .ref 163, .ref 164, .ref 165, .ref 166, .int 0, .ref 167, .ref 168, .long 0, .null, .int 0, .int 0, .null, .int 0, .null, .int 0, .null, .int 0, .int 0, .int 0, .int 0, .int 0, .int 0, .int 0, .null, .null, .int 0, .int 0, .null], oI 44 gt_z, oI 44 gt_z, oI 24 gt_z, oI 24 gt_z, oI 384 gt_z, oI 50 gt_z, oZ 2 gt_z]) hn (Nat.le_of_ble_eq_true rfl) rfl) ?_
  refine ga_aload_n 0 dX10_init_60 rfl ?_
  refine ga_sipush (nI 240) dX10_init_61 (by decide) ?_
  refine ga_newI karrI (M := 240) (by decide) (by decide) (by decide) (by decide) (by decide) dX10_init_64 ?_
  refine ga_heap (gt_lst_pushA (k := 8) (ys := [oO 10 [.ref 162, .ref 163, .ref 164, .ref 165, .ref 166, .int 0, .ref 167, .ref 168, .long 0, .null, .int 0, .int 0, .null, .int 0, .null, .int 0, .null, .int 0, .int 0, .int 0, .int 0, .int 0, .int 0, .int 0, .null, .null, .int 0, .int 0, .null], oI 44 gt_z, oI 44 gt_z, oI 24 gt_z, oI 24 gt_z, oI 384 gt_z, oI 50 gt_z, oZ 2 gt_z, oI 240 gt_z]) hn rfl rfl) ?_
  refine ga_putF kp_X10_32 (gt_lst_at (i := 0) hn rfl) rfl rfl (Nat.le_of_ble_eq_true rfl) rfl dX10_init_66 ?_
  refine ga_heap (gt_lst_setA (i := 0) (ys := [oO 10 [.ref 162, .ref 163, .ref 164, .ref 165, .ref 166, .int 0, .ref 167, .ref 168, .long 0, .ref 169, .int 0, .int 0, .null, .int 0, .null, .int 0, .null, .int 0, .int 0, .int 0, .int 0, .int 0, .int 0, .int 0, .null, .null, .int 0, .int 0, .null], oI 44 gt_z, oI 44 gt_z, oI 24 gt_z, oI 24 gt_z, oI 384 gt_z, oI 50 gt_z, oZ 2 gt_z, oI 240 gt_z]) hn (Nat.le_of_ble_eq_true rfl) rfl) ?_
  refine ga_aload_n 0 dX10_init_69 rfl ?_
  refine ga_iconst ((-1)) dX10_init_70 (by decide) ?_
  refine ga_put kp_X10_35 (gt_lst_at (i := 0) hn rfl) rfl rfl (Nat.le_of_ble_eq_true rfl) dX10_init_71 ?_
  refine ga_heap (gt_lst_setA (i := 0) (ys := [oO 10 [.ref 162, .ref 163, .ref 164, .ref 165, .ref 166, .int 0, .ref 167, .ref 168, .long 0, .ref 169, .int 0, .int (-1), .null, .int 0, .null, .int 0, .null, .int 0, .int 0, .int 0, .int 0, .int 0, .int 0, .int 0, .null, .null, .int 0, .int 0, .null], oI 44 gt_z, oI 44 gt_z, oI 24 gt_z, oI 24 gt_z, oI 384 gt_z, oI 50 gt_z, oZ 2 gt_z, oI 240 gt_z]) hn (Nat.le_of_ble_eq_true rfl) rfl) ?_
  refine ga_aload_n 0 dX10_init_74 rfl ?_
  refine ga_bipush (nI 18) dX10_init_75 (by decide) ?_
  refine ga_newI karrI (M := 18) (by decide) (by decide) (by decide) (by decide) (by decide) dX10_init_77 ?_
  refine ga_heap (gt_lst_pushA (k := 9) (ys := [oO 10 [.ref 162, .ref 163, .ref 164, .ref 165, .ref 166, .int 0, .ref 167, .ref 168, .long 0, .ref 169, .int 0, .int (-1), .null, .int 0, .null, .int 0, .null, .int 0, .int 0, .int 0, .int 0, .int 0, .int 0, .int 0, .null, .null, .int 0, .int 0, .null], oI 44 gt_z, oI 44 gt_z, oI 24 gt_z, oI 24 gt_z, oI 384 gt_z, oI 50 gt_z, oZ 2 gt_z, oI 240 gt_z, oI 18 gt_z]) hn rfl rfl) ?_
  refine ga_putF kp_X10_39 (gt_lst_at (i := 0) hn rfl) rfl rfl (Nat.le_of_ble_eq_true rfl) rfl dX10_init_79 ?_
  refine ga_heap (gt_lst_setA (i := 0) (ys := [oO 10 [.ref 162, .ref 163, .ref 164, .ref 165, .ref 166, .int 0, .ref 167, .ref 168, .long 0, .ref 169, .int 0, .int (-1), .ref 170, .int 0, .null, .int 0, .null, .int 0, .int 0, .int 0, .int 0, .int 0, .int 0, .int 0, .null, .null, .int 0, .int 0, .null], oI 44 gt_z, oI 44 gt_z, oI 24 gt_z, oI 24 gt_z, oI 384 gt_z, oI 50 gt_z, oZ 2 gt_z, oI 240 gt_z, oI 18 gt_z]) hn (Nat.le_of_ble_eq_true rfl) rfl) ?_
  refine ga_aload_n 0 dX10_init_82 rfl ?_
  refine ga_bipush (nI 18) dX10_init_83 (by decide) ?_
  refine ga_newI karrI (M := 18) (by decide) (by decide) (by decide) (by decide) (by decide) dX10_init_85 ?_
  refine ga_heap (gt_lst_pushA (k := 10) (ys := [oO 10 [.ref 162, .ref 163, .ref 164, .ref 165, .ref 166, .int 0, .ref 167, .ref 168, .long 0, .ref 169, .int 0, .int (-1), .ref 170, .int 0, .null, .int 0, .null, .int 0, .int 0, .int 0, .int 0, .int 0, .int 0, .int 0, .null, .null, .int 0, .int 0, .null], oI 44 gt_z, oI 44 gt_z, oI 24 gt_z, oI 24 gt_z, oI 384 gt_z, oI 50 gt_z, oZ 2 gt_z, oI 240 gt_z, oI 18 gt_z, oI 18 gt_z]) hn rfl rfl) ?_
  refine ga_putF kp_X10_42 (gt_lst_at (i := 0) hn rfl) rfl rfl (Nat.le_of_ble_eq_true rfl) rfl dX10_init_87 ?_
  refine ga_heap (gt_lst_setA (i := 0) (ys := [oO 10 [.ref 162, .ref 163, .ref 164, .ref 165, .ref 166, .int 0, .ref 167, .ref 168, .long 0, .ref 169, .int 0, .int (-1), .ref 170, .int 0, .ref 171, .int 0, .null, .int 0, .int 0, .int 0, .int 0, .int 0, .int 0, .int 0, .null, .null, .int 0, .int 0, .null], oI 44 gt_z, oI 44 gt_z, oI 24 gt_z, oI 24 gt_z, oI 384 gt_z, oI 50 gt_z, oZ 2 gt_z, oI 240 gt_z, oI 18 gt_z, oI 18 gt_z]) hn (Nat.le_of_ble_eq_true rfl) rfl) ?_
  refine ga_aload_n 0 dX10_init_90 rfl ?_
  refine ga_bipush (nI 30) dX10_init_91 (by decide) ?_
  refine ga_newI karrI (M := 30) (by decide) (by decide) (by decide) (by decide) (by decide) dX10_init_93 ?_
  refine ga_heap (gt_lst_pushA (k := 11) (ys := [oO 10 [.ref 162, .ref 163, .ref 164, .ref 165, .ref 166, .int 0, .ref 167, .ref 168, .long 0, .ref 169, .int 0, .int (-1), .ref 170, .int 0, .ref 171, .int 0, .null, .int 0, .int 0, .int 0, .int 0, .int 0, .int 0, .int 0, .null, .null, .int 0, .int 0, .null], oI 44 gt_z, oI 44 gt_z, oI 24 gt_z, oI 24 gt_z, oI 384 gt_z, oI 50 gt_z, oZ 2 gt_z, oI 240 gt_z, oI 18 gt_z, oI 18 gt_z, oI 30 gt_z]) hn rfl rfl) ?_
  refine ga_putF kp_X10_45 (gt_lst_at (i := 0) hn rfl) rfl rfl (Nat.le_of_ble_eq_true rfl) rfl dX10_init_95 ?_
  refine ga_heap (gt_lst_setA (i := 0) (ys := [oO 10 [.ref 162, .ref 163, .ref 164, .ref 165, .ref 166, .int 0, .ref 167, .ref 168, .long 0, .ref 169, .int 0, .int (-1), .ref 170, .int 0, .ref 171, .int 0, .ref 172, .int 0, .int 0, .int 0, .int 0, .int 0, .int 0, .int 0, .null, .null, .int 0, .int 0, .null], oI 44 gt_z, oI 44 gt_z, oI 24 gt_z, oI 24 gt_z, oI 384 gt_z, oI 50 gt_z, oZ 2 gt_z, oI 240 gt_z, oI 18 gt_z, oI 18 gt_z, oI 30 gt_z]) hn (Nat.le_of_ble_eq_true rfl) rfl) ?_
  refine ga_aload_n 0 dX10_init_98 rfl ?_
  refine ga_bipush (nI 6) dX10_init_99 (by decide) ?_
  refine ga_newI karrI (M := 6) (by decide) (by decide) (by decide) (by decide) (by decide) dX10_init_101 ?_
  refine ga_heap (gt_lst_pushA (k := 12) (ys := [oO 10 [.ref 162, .ref 163, .ref 164, .ref 165, .ref 166, .int 0, .ref 167, .ref 168, .long 0, .ref 169, .int 0, .int (-1), .ref 170, .int 0, .ref 171, .int 0, .ref 172, .int 0, .int 0, .int 0, .int 0, .int 0, .int 0, .int 0, .null, .null, .int 0, .int 0, .null], oI 44 gt_z, oI 44 gt_z, oI 24 gt_z, oI 24 gt_z, oI 384 gt_z, oI 50 gt_z, oZ 2 gt_z, oI 240 gt_z, oI 18 gt_z, oI 18 gt_z, oI 30 gt_z, oI 6 gt_z]) hn rfl rfl) ?_
  refine ga_putF kp_X10_48 (gt_lst_at (i := 0) hn rfl) rfl rfl (Nat.le_of_ble_eq_true rfl) rfl dX10_init_103 ?_
  refine ga_heap (gt_lst_setA (i := 0) (ys := [oO 10 [.ref 162, .ref 163, .ref 164, .ref 165, .ref 166, .int 0, .ref 167, .ref 168, .long 0, .ref 169, .int 0, .int (-1), .ref 170, .int 0, .ref 171, .int 0, .ref 172, .int 0, .int 0, .int 0, .int 0, .int 0, .int 0, .int 0, .ref 173, .null, .int 0, .int 0, .null], oI 44 gt_z, oI 44 gt_z, oI 24 gt_z, oI 24 gt_z, oI 384 gt_z, oI 50 gt_z, oZ 2 gt_z, oI 240 gt_z, oI 18 gt_z, oI 18 gt_z, oI 30 gt_z, oI 6 gt_z]) hn (Nat.le_of_ble_eq_true rfl) rfl) ?_
  refine ga_aload_n 0 dX10_init_106 rfl ?_
  refine ga_bipush (nI 6) dX10_init_107 (by decide) ?_
  refine ga_newI karrI (M := 6) (by decide) (by decide) (by decide) (by decide) (by decide) dX10_init_109 ?_
  refine ga_heap (gt_lst_pushA (k := 13) (ys := [oO 10 [.ref 162, .ref 163, .ref 164, .ref 165, .ref 166, .int 0, .ref 167, .ref 168, .long 0, .ref 169, .int 0, .int (-1), .ref 170, .int 0, .ref 171, .int 0, .ref 172, .int 0, .int 0, .int 0, .int 0, .int 0, .int 0, .int 0, .ref 173, .null, .int 0, .int 0, .null], oI 44 gt_z, oI 44 gt_z, oI 24 gt_z, oI 24 gt_z, oI 384 gt_z, oI 50 gt_z, oZ 2 gt_z, oI 240 gt_z, oI 18 gt_z, oI 18 gt_z, oI 30 gt_z, oI 6 gt_z, oI 6 gt_z]) hn rfl rfl) ?_
  refine ga_putF kp_X10_51 (gt_lst_at (i := 0) hn rfl) rfl rfl (Nat.le_of_ble_eq_true rfl) rfl dX10_init_111 ?_
  refine ga_heap (gt_lst_setA (i := 0) (ys := [oO 10 [.ref 162, .ref 163, .ref 164, .ref 165, .ref 166, .int 0, .ref 167, .ref 168, .long 0, .ref 169, .int 0, .int (-1), .ref 170, .int 0, .ref 171, .int 0, .ref 172, .int 0, .int 0, .int 0, .int 0, .int 0, .int 0, .int 0, .ref 173, .ref 174, .int 0, .int 0, .null], oI 44 gt_z, oI 44 gt_z, oI 24 gt_z, oI 24 gt_z, oI 384 gt_z, oI 50 gt_z, oZ 2 gt_z, oI 240 gt_z, oI 18 gt_z, oI 18 gt_z, oI 30 gt_z, oI 6 gt_z, oI 6 gt_z]) hn (Nat.le_of_ble_eq_true rfl) rfl) ?_
  refine ga_aload_n 0 dX10_init_114 rfl ?_
  refine ga_sipush (nI 1200) dX10_init_115 (by decide) ?_
  refine ga_newI karrI (M := 1200) (by decide) (by decide) (by decide) (by decide) (by decide) dX10_init_118 ?_
  refine ga_heap (gt_lst_pushA (k := 14) (ys := [oO 10 [.ref 162, .ref 163, .ref 164, .ref 165, .ref 166, .int 0, .ref 167, .ref 168, .long 0, .ref 169, .int 0, .int (-1), .ref 170, .int 0, .ref 171, .int 0, .ref 172, .int 0, .int 0, .int 0, .int 0, .int 0, .int 0, .int 0, .ref 173, .ref 174, .int 0, .int 0, .null], oI 44 gt_z, oI 44 gt_z, oI 24 gt_z, oI 24 gt_z, oI 384 gt_z, oI 50 gt_z, oZ 2 gt_z, oI 240 gt_z, oI 18 gt_z, oI 18 gt_z, oI 30 gt_z, oI 6 gt_z, oI 6 gt_z, oI 1200 gt_z]) hn rfl rfl) ?_
  refine ga_putF kp_X10_54 (gt_lst_at (i := 0) hn rfl) rfl rfl (Nat.le_of_ble_eq_true rfl) rfl dX10_init_120 ?_
  refine ga_heap (gt_lst_setA (i := 0) (ys := [oO 10 [.ref 162, .ref 163, .ref 164, .ref 165, .ref 166, .int 0, .ref 167, .ref 168, .long 0, .ref 169, .int 0, .int (-1), .ref 170, .int 0, .ref 171, .int 0, .ref 172, .int 0, .int 0, .int 0, .int 0, .int 0, .int 0, .int 0, .ref 173, .ref 174, .int 0, .int 0, .ref 175], oI 44 gt_z, oI 44 gt_z, oI 24 gt_z, oI 24 gt_z, oI 384 gt_z, oI 50 gt_z, oZ 2 gt_z, oI 240 gt_z, oI 18 gt_z, oI 18 gt_z, oI 30 gt_z, oI 6 gt_z, oI 6 gt_z, oI 1200 gt_z]) hn (Nat.le_of_ble_eq_true rfl) rfl) ?_
  refine ga_less (h' := gt_enc gt_w0) hs ?_
  refine ga_aload_n 0 dX10_init_123 rfl ?_
  refine gd_V0 km_X10_57 kv_X10_begins c_X10_begins (sh161 _) rfl rfl (gt_rc1 (by decide) (by decide) (by decide)) (Nat.le_of_ble_eq_true rfl) dX10_init_124 (fun r_124 w_124 q_124 => ?_)
  obtain ⟨rfl, q⟩ := q_124
  exact gee_vret dX10_init_127 ⟨rfl, q⟩
theorem gt_m31 : gt_rf 29 16 = fun i => if i < 16 then some (32 + 5 * i) else none := by
  funext i
  unfold gt_rf
  rw [show 29 + 2 + 5 * i + 1 = 32 + 5 * i by omega]
theorem gt_m112 : va_up (va_up (fun _ => none) (nI 0).toNatClampNeg (some 149)) (nI 1).toNatClampNeg (some 155) = fun i => if i < 2 then some (149 + 6 * i) else none := by
  rw [nI_clamp (by decide), nI_clamp (by decide)]
  funext i
  unfold va_up
  by_cases e1 : i = 1
  · rw [if_pos e1, if_pos (by omega), e1]
  · rw [if_neg e1]
    by_cases e0 : i = 0
    · rw [if_pos e0, if_pos (by omega), e0]
    · rw [if_neg e0, if_neg (by omega)]
