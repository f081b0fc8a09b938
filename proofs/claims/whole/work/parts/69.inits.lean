/-- what X8_init makes -/
def bS (s : Nat) : List gt_Ob := [oO 8 [.int 0, .int 0, .ref (s + 1), .ref (s + 2), .ref (s + 3), .ref (s + 4)], oI 6 gt_z, oI 6 gt_z, oI 6 gt_z, oI 4 gt_z]
set_option maxRecDepth 100000 in
set_option maxHeartbeats 4000000 in
theorem c_X8_init {l : Launch} {G : gt_G} {L0 : List gt_Ob} {n : Nat} (hn : L0.length = n) : gt_C l G yX8_init cX8_init 1 none 1 4 22 (n + 1) [.ref (n + 1)] (gt_lst (L0 ++ [oO 8 [.int 0, .int 0, .null, .null, .null, .null]])) none (gt_lst (L0 ++ bS (n + 1))) := by
  refine gt_C_of (own := RX8) (nm := "<init>") rfl rfl (by decide +kernel) (Nat.le_of_ble_eq_true rfl) ?_
  show gt_A _ _ _ _ _ _ _ _ _ _ _ [(0, .ref (n + 1))] _ _
  refine ga_aload_n 0 dX8_init_0 rfl ?_
  refine ga_objInit km_X8_3 kobj (gt_roomC (by decide)) (Nat.le_of_ble_eq_true rfl) dX8_init_1 ?_
  refine ga_aload_n 0 dX8_init_4 rfl ?_
  refine ga_bipush (nI 6) dX8_init_5 (by decide) ?_
  refine ga_newI karrI (M := 6) (by decide) (by decide) (by decide) (by decide) (by decide) dX8_init_7 ?_
  refine ga_heap (gt_lst_pushA (k := 1) (ys := [oO 8 [.int 0, .int 0, .null, .null, .null, .null], oI 6 gt_z]) hn rfl rfl) ?_
  refine ga_putF kp_X8_9 (gt_lst_at (i := 0) hn rfl) rfl rfl (Nat.le_of_ble_eq_true rfl) rfl dX8_init_9 ?_
  refine ga_heap (gt_lst_setA (i := 0) (ys := [oO 8 [.int 0, .int 0, .ref (n + 1 + 1), .null, .null, .null], oI 6 gt_z]) hn (Nat.le_of_ble_eq_true rfl) rfl) ?_
  refine ga_aload_n 0 dX8_init_12 rfl ?_
  refine ga_bipush (nI 6) dX8_init_13 (by decide) ?_
  refine ga_newI karrI (M := 6) (by decide) (by decide) (by decide) (by decide) (by decide) dX8_init_15 ?_
  refine ga_heap (gt_lst_pushA (k := 2) (ys := [oO 8 [.int 0, .int 0, .ref (n + 1 + 1), .null, .null, .null], oI 6 gt_z, oI 6 gt_z]) hn rfl rfl) ?_
  refine ga_putF kp_X8_15 (gt_lst_at (i := 0) hn rfl) rfl rfl (Nat.le_of_ble_eq_true rfl) rfl dX8_init_17 ?_
  refine ga_heap (gt_lst_setA (i := 0) (ys := [oO 8 [.int 0, .int 0, .ref (n + 1 + 1), .ref (n + 1 + 2), .null, .null], oI 6 gt_z, oI 6 gt_z]) hn (Nat.le_of_ble_eq_true rfl) rfl) ?_
  refine ga_aload_n 0 dX8_init_20 rfl ?_
  refine ga_bipush (nI 6) dX8_init_21 (by decide) ?_
  refine ga_newI karrI (M := 6) (by decide) (by decide) (by decide) (by decide) (by decide) dX8_init_23 ?_
  refine ga_heap (gt_lst_pushA (k := 3) (ys := [oO 8 [.int 0, .int 0, .ref (n + 1 + 1), .ref (n + 1 + 2), .null, .null], oI 6 gt_z, oI 6 gt_z, oI 6 gt_z]) hn rfl rfl) ?_
  refine ga_putF kp_X8_18 (gt_lst_at (i := 0) hn rfl) rfl rfl (Nat.le_of_ble_eq_true rfl) rfl dX8_init_25 ?_
  refine ga_heap (gt_lst_setA (i := 0) (ys := [oO 8 [.int 0, .int 0, .ref (n + 1 + 1), .ref (n + 1 + 2), .ref (n + 1 + 3), .null], oI 6 gt_z, oI 6 gt_z, oI 6 gt_z]) hn (Nat.le_of_ble_eq_true rfl) rfl) ?_
  refine ga_aload_n 0 dX8_init_28 rfl ?_
  refine ga_iconst (nI 4) dX8_init_29 (by decide) ?_
  refine ga_newI karrI (M := 4) (by decide) (by decide) (by decide) (by decide) (by decide) dX8_init_30 ?_
  refine ga_heap (gt_lst_pushA (k := 4) (ys := [oO 8 [.int 0, .int 0, .ref (n + 1 + 1), .ref (n + 1 + 2), .ref (n + 1 + 3), .null], oI 6 gt_z, oI 6 gt_z, oI 6 gt_z, oI 4 gt_z]) hn rfl rfl) ?_
  refine ga_putF kp_X8_21 (gt_lst_at (i := 0) hn rfl) rfl rfl (Nat.le_of_ble_eq_true rfl) rfl dX8_init_32 ?_
  refine ga_heap (gt_lst_setA (i := 0) (ys := [oO 8 [.int 0, .int 0, .ref (n + 1 + 1), .ref (n + 1 + 2), .ref (n + 1 + 3), .ref (n + 1 + 4)], oI 6 gt_z, oI 6 gt_z, oI 6 gt_z, oI 4 gt_z]) hn (Nat.le_of_ble_eq_true rfl) rfl) ?_
  exact ga_vret dX8_init_35 rfl (fun _ _ q => q)
/-- what X0_init makes -/
def bC (s : Nat) : List gt_Ob := [oO 0 [.int 0, .int 0, .int 0, .int 0, .ref (s + 1), .ref (s + 2), .ref (s + 3), .ref (s + 4), .ref (s + 5), .ref (s + 6), .ref (s + 7)], oI 10 gt_z, oI 6 gt_z, oI 6 gt_z, oI 6 gt_z, oI 4 gt_z, oI 4 gt_z, oI 4 gt_z]
set_option maxRecDepth 100000 in
set_option maxHeartbeats 4000000 in
theorem c_X0_init {l : Launch} {G : gt_G} {L0 : List gt_Ob} {n : Nat} (hn : L0.length = n) : gt_C l G yX0_init cX0_init 1 none 1 7 40 (n + 1) [.ref (n + 1)] (gt_lst (L0 ++ [oO 0 [.int 0, .int 0, .int 0, .int 0, .null, .null, .null, .null, .null, .null, .null]])) none (gt_lst (L0 ++ bC (n + 1))) := by
  refine gt_C_of (own := RX0) (nm := "<init>") rfl rfl (by decide +kernel) (Nat.le_of_ble_eq_true rfl) ?_
  show gt_A _ _ _ _ _ _ _ _ _ _ _ [(0, .ref (n + 1))] _ _
  refine ga_aload_n 0 dX0_init_0 rfl ?_
  refine ga_objInit km_X0_3 kobj (gt_roomC (by decide)) (Nat.le_of_ble_eq_true rfl) dX0_init_1 ?_
  refine ga_aload_n 0 dX0_init_4 rfl ?_
  refine ga_bipush (nI 10) dX0_init_5 (by decide) ?_
  refine ga_newI karrI (M := 10) (by decide) (by decide) (by decide) (by decide) (by decide) dX0_init_7 ?_
  refine ga_heap (gt_lst_pushA (k := 1) (ys := [oO 0 [.int 0, .int 0, .int 0, .int 0, .null, .null, .null, .null, .null, .null, .null], oI 10 gt_z]) hn rfl rfl) ?_
  refine ga_putF kp_X0_9 (gt_lst_at (i := 0) hn rfl) rfl rfl (Nat.le_of_ble_eq_true rfl) rfl dX0_init_9 ?_
  refine ga_heap (gt_lst_setA (i := 0) (ys := [oO 0 [.int 0, .int 0, .int 0, .int 0, .ref (n + 1 + 1), .null, .null, .null, .null, .null, .null], oI 10 gt_z]) hn (Nat.le_of_ble_eq_true rfl) rfl) ?_
  refine ga_aload_n 0 dX0_init_12 rfl ?_
  refine ga_bipush (nI 6) dX0_init_13 (by decide) ?_
  refine ga_newI karrI (M := 6) (by decide) (by decide) (by decide) (by decide) (by decide) dX0_init_15 ?_
  refine ga_heap (gt_lst_pushA (k := 2) (ys := [oO 0 [.int 0, .int 0, .int 0, .int 0, .ref (n + 1 + 1), .null, .null, .null, .null, .null, .null], oI 10 gt_z, oI 6 gt_z]) hn rfl rfl) ?_
  refine ga_putF kp_X0_15 (gt_lst_at (i := 0) hn rfl) rfl rfl (Nat.le_of_ble_eq_true rfl) rfl dX0_init_17 ?_
  refine ga_heap (gt_lst_setA (i := 0) (ys := [oO 0 [.int 0, .int 0, .int 0, .int 0, .ref (n + 1 + 1), .ref (n + 1 + 2), .null, .null, .null, .null, .null], oI 10 gt_z, oI 6 gt_z]) hn (Nat.le_of_ble_eq_true rfl) rfl) ?_
  refine ga_aload_n 0 dX0_init_20 rfl ?_
  refine ga_bipush (nI 6) dX0_init_21 (by decide) ?_
  refine ga_newI karrI (M := 6) (by decide) (by decide) (by decide) (by decide) (by decide) dX0_init_23 ?_
  refine ga_heap (gt_lst_pushA (k := 3) (ys := [oO 0 [.int 0, .int 0, .int 0, .int 0, .ref (n + 1 + 1), .ref (n + 1 + 2), .null, .null, .null, .null, .null], oI 10 gt_z, oI 6 gt_z, oI 6 gt_z]) hn rfl rfl) ?_
  refine ga_putF kp_X0_18 (gt_lst_at (i := 0) hn rfl) rfl rfl (Nat.le_of_ble_eq_true rfl) rfl dX0_init_25 ?_
  refine ga_heap (gt_lst_setA (i := 0) (ys := [oO 0 [.int 0, .int 0, .int 0, .int 0, .ref (n + 1 + 1), .ref (n + 1 + 2), .ref (n + 1 + 3), .null, .null, .null, .null], oI 10 gt_z, oI 6 gt_z, oI 6 gt_z]) hn (Nat.le_of_ble_eq_true rfl) rfl) ?_
  refine ga_aload_n 0 dX0_init_28 rfl ?_
  refine ga_bipush (nI 6) dX0_init_29 (by decide) ?_
  refine ga_newI karrI (M := 6) (by decide) (by decide) (by decide) (by decide) (by decide) dX0_init_31 ?_
  refine ga_heap (gt_lst_pushA (k := 4) (ys := [oO 0 [.int 0, .int 0, .int 0, .int 0, .ref (n + 1 + 1), .ref (n + 1 + 2), .ref (n + 1 + 3), .null, .null, .null, .null], oI 10 gt_z, oI 6 gt_z, oI 6 gt_z, oI 6 gt_z]) hn rfl rfl) ?_
  refine ga_putF kp_X0_21 (gt_lst_at (i := 0) hn rfl) rfl rfl (Nat.le_of_ble_eq_true rfl) rfl dX0_init_33 ?_
  refine ga_heap (gt_lst_setA (i := 0) (ys := [oO 0 [.int 0, .int 0, .int 0, .int 0, .ref (n + 1 + 1), .ref (n + 1 + 2), .ref (n + 1 + 3), .ref (n + 1 + 4), .null, .null, .null], oI 10 gt_z, oI 6 gt_z, oI 6 gt_z, oI 6 gt_z]) hn (Nat.le_of_ble_eq_true rfl) rfl) ?_
  refine ga_aload_n 0 dX0_init_36 rfl ?_
  refine ga_iconst (nI 4) dX0_init_37 (by decide) ?_
  refine ga_newI karrI (M := 4) (by decide) (by decide) (by decide) (by decide) (by decide) dX0_init_38 ?_
  refine ga_heap (gt_lst_pushA (k := 5) (ys := [oO 0 [.int 0, .int 0, .int 0, .int 0, .ref (n + 1 + 1), .ref (n + 1 + 2), .ref (n + 1 + 3), .ref (n + 1 + 4), .null, .null, .null], oI 10 gt_z, oI 6 gt_z, oI 6 gt_z, oI 6 gt_z, oI 4 gt_z]) hn rfl rfl) ?_
  refine ga_putF kp_X0_24 (gt_lst_at (i := 0) hn rfl) rfl rfl (Nat.le_of_ble_eq_true rfl) rfl dX0_init_40 ?_
  refine ga_heap (gt_lst_setA (i := 0) (ys := [oO 0 [.int 0, .int 0, .int 0, .int 0, .ref (n + 1 + 1), .ref (n + 1 + 2), .ref (n + 1 + 3), .ref (n + 1 + 4), .ref (n + 1 + 5), .null, .null], oI 10 gt_z, oI 6 gt_z, oI 6 gt_z, oI 6 gt_z, oI 4 gt_z]) hn (Nat.le_of_ble_eq_true rfl) rfl) ?_
  refine ga_aload_n 0 dX0_init_43 rfl ?_
  refine ga_iconst (nI 4) dX0_init_44 (by decide) ?_
  refine ga_newI karrI (M := 4) (by decide) (by decide) (by decide) (by decide) (by decide) dX0_init_45 ?_
  refine ga_heap (gt_lst_pushA (k := 6) (ys := [oO 0 [.int 0, .int 0, .int 0, .int 0, .ref (n + 1 + 1), .ref (n + 1 + 2), .ref (n + 1 + 3), .ref (n + 1 + 4), .ref (n + 1 + 5), .null, .null], oI 10 gt_z, oI 6 gt_z, oI 6 gt_z, oI 6 gt_z, oI 4 gt_z, oI 4 gt_z]) hn rfl rfl) ?_
  refine ga_putF kp_X0_27 (gt_lst_at (i := 0) hn rfl) rfl rfl (Nat.le_of_ble_eq_true rfl) rfl dX0_init_47 ?_
  refine ga_heap (gt_lst_setA (i := 0) (ys := [oO 0 [.int 0, .int 0, .int 0, .int 0, .ref (n + 1 + 1), .ref (n + 1 + 2), .ref (n + 1 + 3), .ref (n + 1 + 4), .ref (n + 1 + 5), .ref (n + 1 + 6), .null], oI 10 gt_z, oI 6 gt_z, oI 6 gt_z, oI 6 gt_z, oI 4 gt_z, oI 4 gt_z]) hn (Nat.le_of_ble_eq_true rfl) rfl) ?_
  refine ga_aload_n 0 dX0_init_50 rfl ?_
  refine ga_iconst (nI 4) dX0_init_51 (by decide) ?_
  refine ga_newI karrI (M := 4) (by decide) (by decide) (by decide) (by decide) (by decide) dX0_init_52 ?_
  refine ga_heap (gt_lst_pushA (k := 7) (ys := [oO 0 [.int 0, .int 0, .int 0, .int 0, .ref (n + 1 + 1), .ref (n + 1 + 2), .ref (n + 1 + 3), .ref (n + 1 + 4), .ref (n + 1 + 5), .ref (n + 1 + 6), .null], oI 10 gt_z, oI 6 gt_z, oI 6 gt_z, oI 6 gt_z, oI 4 gt_z, oI 4 gt_z, oI 4 gt_z]) hn rfl rfl) ?_
  refine ga_putF kp_X0_30 (gt_lst_at (i := 0) hn rfl) rfl rfl (Nat.le_of_ble_eq_true rfl) rfl dX0_init_54 ?_
  refine ga_heap (gt_lst_setA (i := 0) (ys := [oO 0 [.int 0, .int 0, .int 0, .int 0, .ref (n + 1 + 1), .ref (n + 1 + 2), .ref (n + 1 + 3), .ref (n + 1 + 4), .ref (n + 1 + 5), .ref (n + 1 + 6), .ref (n + 1 + 7)], oI 10 gt_z, oI 6 gt_z, oI 6 gt_z, oI 6 gt_z, oI 4 gt_z, oI 4 gt_z, oI 4 gt_z]) hn (Nat.le_of_ble_eq_true rfl) rfl) ?_
  exact ga_vret dX0_init_57 rfl (fun _ _ q => q)
/-- what X6_init makes -/
def bR (s : Nat) : List gt_Ob := [oO 6 [.ref (s + 1), .int 0, .int 0, .int 0, .int (-1)], oI 240 gt_z]
set_option maxRecDepth 100000 in
set_option maxHeartbeats 4000000 in
theorem c_X6_init {l : Launch} {G : gt_G} {L0 : List gt_Ob} {n : Nat} (hn : L0.length = n) : gt_C l G yX6_init cX6_init 1 none 1 1 240 (n + 1) [.ref (n + 1)] (gt_lst (L0 ++ [oO 6 [.null, .int 0, .int 0, .int 0, .int 0]])) none (gt_lst (L0 ++ bR (n + 1))) := by
  refine gt_C_of (own := RX6) (nm := "<init>") rfl rfl (by decide +kernel) (Nat.le_of_ble_eq_true rfl) ?_
  show gt_A _ _ _ _ _ _ _ _ _ _ _ [(0, .ref (n + 1))] _ _
  refine ga_aload_n 0 dX6_init_0 rfl ?_
  refine ga_objInit km_X6_3 kobj (gt_roomC (by decide)) (Nat.le_of_ble_eq_true rfl) dX6_init_1 ?_
  refine ga_aload_n 0 dX6_init_4 rfl ?_
  refine ga_sipush (nI 240) dX6_init_5 (by decide) ?_
  refine ga_newI karrI (M := 240) (by decide) (by decide) (by decide) (by decide) (by decide) dX6_init_8 ?_
  refine ga_heap (gt_lst_pushA (k := 1) (ys := [oO 6 [.null, .int 0, .int 0, .int 0, .int 0], oI 240 gt_z]) hn rfl rfl) ?_
  refine ga_putF kp_X6_9 (gt_lst_at (i := 0) hn rfl) rfl rfl (Nat.le_of_ble_eq_true rfl) rfl dX6_init_10 ?_
  refine ga_heap (gt_lst_setA (i := 0) (ys := [oO 6 [.ref (n + 1 + 1), .int 0, .int 0, .int 0, .int 0], oI 240 gt_z]) hn (Nat.le_of_ble_eq_true rfl) rfl) ?_
  refine ga_aload_n 0 dX6_init_13 rfl ?_
  refine ga_iconst ((-1)) dX6_init_14 (by decide) ?_
  refine ga_put kp_X6_15 (gt_lst_at (i := 0) hn rfl) rfl rfl (Nat.le_of_ble_eq_true rfl) dX6_init_15 ?_
  refine ga_heap (gt_lst_setA (i := 0) (ys := [oO 6 [.ref (n + 1 + 1), .int 0, .int 0, .int 0, .int (-1)], oI 240 gt_z]) hn (Nat.le_of_ble_eq_true rfl) rfl) ?_
  exact ga_vret dX6_init_18 rfl (fun _ _ q => q)
/-- what X1_init makes -/
def bD (s : Nat) : List gt_Ob := [oO 1 [.int 0]]
set_option maxRecDepth 100000 in
set_option maxHeartbeats 4000000 in
theorem c_X1_init {l : Launch} {G : gt_G} {L0 : List gt_Ob} {n : Nat} (hn : L0.length = n) : gt_C l G yX1_init cX1_init 1 none 1 0 0 (n + 1) [.ref (n + 1)] (gt_lst (L0 ++ [oO 1 [.int 0]])) none (gt_lst (L0 ++ bD (n + 1))) := by
  refine gt_C_of (own := RX1) (nm := "<init>") rfl rfl (by decide +kernel) (Nat.le_of_ble_eq_true rfl) ?_
  show gt_A _ _ _ _ _ _ _ _ _ _ _ [(0, .ref (n + 1))] _ _
  refine ga_aload_n 0 dX1_init_0 rfl ?_
  refine ga_objInit km_X1_3 kobj (gt_roomC (by decide)) (Nat.le_of_ble_eq_true rfl) dX1_init_1 ?_
  exact ga_vret dX1_init_4 rfl (fun _ _ q => q)
/-- what X3_init makes -/
def bN (s : Nat) : List gt_Ob := [oO 3 [.int 0, .int 0, .int 0, .ref (s + 1), .ref (s + 2), .ref (s + 3), .ref (s + 4), .ref (s + 5), .ref (s + 6), .ref (s + 7), .ref (s + 8)], oI 6 gt_z, oI 6 gt_z, oI 6 gt_z, oI 6 gt_z, oI 6 gt_z, oI 6 gt_z, oI 15 gt_z, oI 15 gt_z]
set_option maxRecDepth 100000 in
set_option maxHeartbeats 4000000 in
theorem c_X3_init {l : Launch} {G : gt_G} {L0 : List gt_Ob} {n : Nat} (hn : L0.length = n) : gt_C l G yX3_init cX3_init 1 none 1 8 66 (n + 1) [.ref (n + 1)] (gt_lst (L0 ++ [oO 3 [.int 0, .int 0, .int 0, .null, .null, .null, .null, .null, .null, .null, .null]])) none (gt_lst (L0 ++ bN (n + 1))) := by
  refine gt_C_of (own := RX3) (nm := "<init>") rfl rfl (by decide +kernel) (Nat.le_of_ble_eq_true rfl) ?_
  show gt_A _ _ _ _ _ _ _ _ _ _ _ [(0, .ref (n + 1))] _ _
  refine ga_aload_n 0 dX3_init_0 rfl ?_
  refine ga_objInit km_X3_3 kobj (gt_roomC (by decide)) (Nat.le_of_ble_eq_true rfl) dX3_init_1 ?_
  refine ga_aload_n 0 dX3_init_4 rfl ?_
  refine ga_bipush (nI 6) dX3_init_5 (by decide) ?_
  refine ga_newI karrI (M := 6) (by decide) (by decide) (by decide) (by decide) (by decide) dX3_init_7 ?_
  refine ga_heap (gt_lst_pushA (k := 1) (ys := [oO 3 [.int 0, .int 0, .int 0, .null, .null, .null, .null, .null, .null, .null, .null], oI 6 gt_z]) hn rfl rfl) ?_
  refine ga_putF kp_X3_9 (gt_lst_at (i := 0) hn rfl) rfl rfl (Nat.le_of_ble_eq_true rfl) rfl dX3_init_9 ?_
  refine ga_heap (gt_lst_setA (i := 0) (ys := [oO 3 [.int 0, .int 0, .int 0, .ref (n + 1 + 1), .null, .null, .null, .null, .null, .null, .null], oI 6 gt_z]) hn (Nat.le_of_ble_eq_true rfl) rfl) ?_
  refine ga_aload_n 0 dX3_init_12 rfl ?_
  refine ga_bipush (nI 6) dX3_init_13 (by decide) ?_
  refine ga_newI karrI (M := 6) (by decide) (by decide) (by decide) (by decide) (by decide) dX3_init_15 ?_
  refine ga_heap (gt_lst_pushA (k := 2) (ys := [oO 3 [.int 0, .int 0, .int 0, .ref (n + 1 + 1), .null, .null, .null, .null, .null, .null, .null], oI 6 gt_z, oI 6 gt_z]) hn rfl rfl) ?_
  refine ga_putF kp_X3_15 (gt_lst_at (i := 0) hn rfl) rfl rfl (Nat.le_of_ble_eq_true rfl) rfl dX3_init_17 ?_
  refine ga_heap (gt_lst_setA (i := 0) (ys := [oO 3 [.int 0, .int 0, .int 0, .ref (n + 1 + 1), .ref (n + 1 + 2), .null, .null, .null, .null, .null, .null], oI 6 gt_z, oI 6 gt_z]) hn (Nat.le_of_ble_eq_true rfl) rfl) ?_
  refine ga_aload_n 0 dX3_init_20 rfl ?_
  refine ga_bipush (nI 6) dX3_init_21 (by decide) ?_
  refine ga_newI karrI (M := 6) (by decide) (by decide) (by decide) (by decide) (by decide) dX3_init_23 ?_
  refine ga_heap (gt_lst_pushA (k := 3) (ys := [oO 3 [.int 0, .int 0, .int 0, .ref (n + 1 + 1), .ref (n + 1 + 2), .null, .null, .null, .null, .null, .null], oI 6 gt_z, oI 6 gt_z, oI 6 gt_z]) hn rfl rfl) ?_
  refine ga_putF kp_X3_18 (gt_lst_at (i := 0) hn rfl) rfl rfl (Nat.le_of_ble_eq_true rfl) rfl dX3_init_25 ?_
  refine ga_heap (gt_lst_setA (i := 0) (ys := [oO 3 [.int 0, .int 0, .int 0, .ref (n + 1 + 1), .ref (n + 1 + 2), .ref (n + 1 + 3), .null, .null, .null, .null, .null], oI 6 gt_z, oI 6 gt_z, oI 6 gt_z]) hn (Nat.le_of_ble_eq_true rfl) rfl) ?_
  refine ga_aload_n 0 dX3_init_28 rfl ?_
  refine ga_bipush (nI 6) dX3_init_29 (by decide) ?_
  refine ga_newI karrI (M := 6) (by decide) (by decide) (by decide) (by decide) (by decide) dX3_init_31 ?_
  refine ga_heap (gt_lst_pushA (k := 4) (ys := [oO 3 [.int 0, .int 0, .int 0, .ref (n + 1 + 1), .ref (n + 1 + 2), .ref (n + 1 + 3), .null, .null, .null, .null, .null], oI 6 gt_z, oI 6 gt_z, oI 6 gt_z, oI 6 gt_z]) hn rfl rfl) ?_
  refine ga_putF kp_X3_21 (gt_lst_at (i := 0) hn rfl) rfl rfl (Nat.le_of_ble_eq_true rfl) rfl dX3_init_33 ?_
  refine ga_heap (gt_lst_setA (i := 0) (ys := [oO 3 [.int 0, .int 0, .int 0, .ref (n + 1 + 1), .ref (n + 1 + 2), .ref (n + 1 + 3), .ref (n + 1 + 4), .null, .null, .null, .null], oI 6 gt_z, oI 6 gt_z, oI 6 gt_z, oI 6 gt_z]) hn (Nat.le_of_ble_eq_true rfl) rfl) ?_
  refine ga_aload_n 0 dX3_init_36 rfl ?_
  refine ga_bipush (nI 6) dX3_init_37 (by decide) ?_
  refine ga_newI karrI (M := 6) (by decide) (by decide) (by decide) (by decide) (by decide) dX3_init_39 ?_
  refine ga_heap (gt_lst_pushA (k := 5) (ys := [oO 3 [.int 0, .int 0, .int 0, .ref (n + 1 + 1), .ref (n + 1 + 2), .ref (n + 1 + 3), .ref (n + 1 + 4), .null, .null, .null, .null], oI 6 gt_z, oI 6 gt_z, oI 6 gt_z, oI 6 gt_z, oI 6 gt_z]) hn rfl rfl) ?_
  refine ga_putF kp_X3_24 (gt_lst_at (i := 0) hn rfl) rfl rfl (Nat.le_of_ble_eq_true rfl) rfl dX3_init_41 ?_
  refine ga_heap (gt_lst_setA (i := 0) (ys := [oO 3 [.int 0, .int 0, .int 0, .ref (n + 1 + 1), .ref (n + 1 + 2), .ref (n + 1 + 3), .ref (n + 1 + 4), .ref (n + 1 + 5), .null, .null, .null], oI 6 gt_z, oI 6 gt_z, oI 6 gt_z, oI 6 gt_z, oI 6 gt_z]) hn (Nat.le_of_ble_eq_true rfl) rfl) ?_
  refine ga_aload_n 0 dX3_init_44 rfl ?_
  refine ga_bipush (nI 6) dX3_init_45 (by decide) ?_
  refine ga_newI karrI (M := 6) (by decide) (by decide) (by decide) (by decide) (by decide) dX3_init_47 ?_
  refine ga_heap (gt_lst_pushA (k := 6) (ys := [oO 3 [.int 0, .int 0, .int 0, .ref (n + 1 + 1), .ref (n + 1 + 2), .ref (n + 1 + 3), .ref (n + 1 + 4), .ref (n + 1 + 5), .null, .null, .null], oI 6 gt_z, oI 6 gt_z, oI 6 gt_z, oI 6 gt_z, oI 6 gt_z, oI 6 gt_z]) hn rfl rfl) ?_
  refine ga_putF kp_X3_27 (gt_lst_at (i := 0) hn rfl) rfl rfl (Nat.le_of_ble_eq_true rfl) rfl dX3_init_49 ?_
  refine ga_heap (gt_lst_setA (i := 0) (ys := [oO 3 [.int 0, .int 0, .int 0, .ref (n + 1 + 1), .ref (n + 1 + 2), .ref (n + 1 + 3), .ref (n + 1 + 4), .ref (n + 1 + 5), .ref (n + 1 + 6), .null, .null], oI 6 gt_z, oI 6 gt_z, oI 6 gt_z, oI 6 gt_z, oI 6 gt_z, oI 6 gt_z]) hn (Nat.le_of_ble_eq_true rfl) rfl) ?_
  refine ga_aload_n 0 dX3_init_52 rfl ?_
  refine ga_bipush (nI 15) dX3_init_53 (by decide) ?_
  refine ga_newI karrI (M := 15) (by decide) (by decide) (by decide) (by decide) (by decide) dX3_init_55 ?_
  refine ga_heap (gt_lst_pushA (k := 7) (ys := [oO 3 [.int 0, .int 0, .int 0, .ref (n + 1 + 1), .ref (n + 1 + 2), .ref (n + 1 + 3), .ref (n + 1 + 4), .ref (n + 1 + 5), .ref (n + 1 + 6), .null, .null], oI 6 gt_z, oI 6 gt_z, oI 6 gt_z, oI 6 gt_z, oI 6 gt_z, oI 6 gt_z, oI 15 gt_z]) hn rfl rfl) ?_
  refine ga_putF kp_X3_30 (gt_lst_at (i := 0) hn rfl) rfl rfl (Nat.le_of_ble_eq_true rfl) rfl dX3_init_57 ?_
  refine ga_heap (gt_lst_setA (i := 0) (ys := [oO 3 [.int 0, .int 0, .int 0, .ref (n + 1 + 1), .ref (n + 1 + 2), .ref (n + 1 + 3), .ref (n + 1 + 4), .ref (n + 1 + 5), .ref (n + 1 + 6), .ref (n + 1 + 7), .null], oI 6 gt_z, oI 6 gt_z, oI 6 gt_z, oI 6 gt_z, oI 6 gt_z, oI 6 gt_z, oI 15 gt_z]) hn (Nat.le_of_ble_eq_true rfl) rfl) ?_
  refine ga_aload_n 0 dX3_init_60 rfl ?_
  refine ga_bipush (nI 15) dX3_init_61 (by decide) ?_
  refine ga_newI karrI (M := 15) (by decide) (by decide) (by decide) (by decide) (by decide) dX3_init_63 ?_
  refine ga_heap (gt_lst_pushA (k := 8) (ys := [oO 3 [.int 0, .int 0, .int 0, .ref (n + 1 + 1), .ref (n + 1 + 2), .ref (n + 1 + 3), .ref (n + 1 + 4), .ref (n + 1 + 5), .ref (n + 1 + 6), .ref (n + 1 + 7), .null], oI 6 gt_z, oI 6 gt_z, oI 6 gt_z, oI 6 gt_z, oI 6 gt_z, oI 6 gt_z, oI 15 gt_z, oI 15 gt_z]) hn rfl rfl) ?_
  refine ga_putF kp_X3_33 (gt_lst_at (i := 0) hn rfl) rfl rfl (Nat.le_of_ble_eq_true rfl) rfl dX3_init_65 ?_
  refine ga_heap (gt_lst_setA (i := 0) (ys := [oO 3 [.int 0, .int 0, .int 0, .ref (n + 1 + 1), .ref (n + 1 + 2), .ref (n + 1 + 3), .ref (n + 1 + 4), .ref (n + 1 + 5), .ref (n + 1 + 6), .ref (n + 1 + 7), .ref (n + 1 + 8)], oI 6 gt_z, oI 6 gt_z, oI 6 gt_z, oI 6 gt_z, oI 6 gt_z, oI 6 gt_z, oI 15 gt_z, oI 15 gt_z]) hn (Nat.le_of_ble_eq_true rfl) rfl) ?_
  exact ga_vret dX3_init_68 rfl (fun _ _ q => q)
/-- what X5_init makes -/
def bP (s : Nat) : List gt_Ob := [oO 5 [.ref (s + 1), .ref (s + 2), .ref (s + 3), .ref (s + 10), .int 0, .int 0], oI 6 gt_z, oI 6 gt_z, oR 4 6 (fun i => if i < 6 then some (s + 4 + i) else none), oI 6 gt_z, oI 6 gt_z, oI 6 gt_z, oI 6 gt_z, oI 6 gt_z, oI 6 gt_z, oR 4 7 (fun i => if i < 7 then some (s + 11 + i) else none), oI 7 gt_z, oI 7 gt_z, oI 7 gt_z, oI 7 gt_z, oI 7 gt_z, oI 7 gt_z, oI 7 gt_z]
set_option maxRecDepth 100000 in
set_option maxHeartbeats 4000000 in
theorem c_X5_init {l : Launch} {G : gt_G} {L0 : List gt_Ob} {n : Nat} (hn : L0.length = n) : gt_C l G yX5_init cX5_init 1 none 1 17 110 (n + 1) [.ref (n + 1)] (gt_lst (L0 ++ [oO 5 [.null, .null, .null, .null, .int 0, .int 0]])) none (gt_lst (L0 ++ bP (n + 1))) := by
  refine gt_C_of (own := RX5) (nm := "<init>") rfl rfl (by decide +kernel) (Nat.le_of_ble_eq_true rfl) ?_
  show gt_A _ _ _ _ _ _ _ _ _ _ _ [(0, .ref (n + 1))] _ _
  refine ga_aload_n 0 dX5_init_0 rfl ?_
  refine ga_objInit km_X5_3 kobj (gt_roomC (by decide)) (Nat.le_of_ble_eq_true rfl) dX5_init_1 ?_
  refine ga_aload_n 0 dX5_init_4 rfl ?_
  refine ga_bipush (nI 6) dX5_init_5 (by decide) ?_
  refine ga_newI karrI (M := 6) (by decide) (by decide) (by decide) (by decide) (by decide) dX5_init_7 ?_
  refine ga_heap (gt_lst_pushA (k := 1) (ys := [oO 5 [.null, .null, .null, .null, .int 0, .int 0], oI 6 gt_z]) hn rfl rfl) ?_
  refine ga_putF kp_X5_9 (gt_lst_at (i := 0) hn rfl) rfl rfl (Nat.le_of_ble_eq_true rfl) rfl dX5_init_9 ?_
  refine ga_heap (gt_lst_setA (i := 0) (ys := [oO 5 [.ref (n + 1 + 1), .null, .null, .null, .int 0, .int 0], oI 6 gt_z]) hn (Nat.le_of_ble_eq_true rfl) rfl) ?_
  refine ga_aload_n 0 dX5_init_12 rfl ?_
  refine ga_bipush (nI 6) dX5_init_13 (by decide) ?_
  refine ga_newI karrI (M := 6) (by decide) (by decide) (by decide) (by decide) (by decide) dX5_init_15 ?_
  refine ga_heap (gt_lst_pushA (k := 2) (ys := [oO 5 [.ref (n + 1 + 1), .null, .null, .null, .int 0, .int 0], oI 6 gt_z, oI 6 gt_z]) hn rfl rfl) ?_
  refine ga_putF kp_X5_15 (gt_lst_at (i := 0) hn rfl) rfl rfl (Nat.le_of_ble_eq_true rfl) rfl dX5_init_17 ?_
  refine ga_heap (gt_lst_setA (i := 0) (ys := [oO 5 [.ref (n + 1 + 1), .ref (n + 1 + 2), .null, .null, .int 0, .int 0], oI 6 gt_z, oI 6 gt_z]) hn (Nat.le_of_ble_eq_true rfl) rfl) ?_
  refine ga_aload_n 0 dX5_init_20 rfl ?_
  refine ga_bipush (nI 6) dX5_init_21 (by decide) ?_
  refine ga_bipush (nI 6) dX5_init_23 (by decide) ?_
  refine ga_multi kl_X5_18 karrI (NN := 6) (M := 6) (by decide) (by decide) (by decide) (by decide) (by decide) (by decide) (by decide) (by decide) dX5_init_25 ?_
  refine ga_heap (gt_lst_rowsA (k := 3) (ys := [oO 5 [.ref (n + 1 + 1), .ref (n + 1 + 2), .null, .null, .int 0, .int 0], oI 6 gt_z, oI 6 gt_z, oR 4 6 (fun i => if i < 6 then some (n + 3 + 2 + i) else none), oI 6 gt_z, oI 6 gt_z, oI 6 gt_z, oI 6 gt_z, oI 6 gt_z, oI 6 gt_z]) hn rfl rfl) ?_
  refine ga_putF kp_X5_20 (gt_lst_at (i := 0) hn rfl) rfl rfl (Nat.le_of_ble_eq_true rfl) rfl dX5_init_29 ?_
  refine ga_heap (gt_lst_setA (i := 0) (ys := [oO 5 [.ref (n + 1 + 1), .ref (n + 1 + 2), .ref (n + 1 + 3), .null, .int 0, .int 0], oI 6 gt_z, oI 6 gt_z, oR 4 6 (fun i => if i < 6 then some (n + 3 + 2 + i) else none), oI 6 gt_z, oI 6 gt_z, oI 6 gt_z, oI 6 gt_z, oI 6 gt_z, oI 6 gt_z]) hn (Nat.le_of_ble_eq_true rfl) rfl) ?_
  refine ga_aload_n 0 dX5_init_32 rfl ?_
  refine ga_bipush (nI 7) dX5_init_33 (by decide) ?_
  refine ga_bipush (nI 7) dX5_init_35 (by decide) ?_
  refine ga_multi kl_X5_18 karrI (NN := 7) (M := 7) (by decide) (by decide) (by decide) (by decide) (by decide) (by decide) (by decide) (by decide) dX5_init_37 ?_
  refine ga_heap (gt_lst_rowsA (k := 10) (ys := [oO 5 [.ref (n + 1 + 1), .ref (n + 1 + 2), .ref (n + 1 + 3), .null, .int 0, .int 0], oI 6 gt_z, oI 6 gt_z, oR 4 6 (fun i => if i < 6 then some (n + 3 + 2 + i) else none), oI 6 gt_z, oI 6 gt_z, oI 6 gt_z, oI 6 gt_z, oI 6 gt_z, oI 6 gt_z, oR 4 7 (fun i => if i < 7 then some (n + 10 + 2 + i) else none), oI 7 gt_z, oI 7 gt_z, oI 7 gt_z, oI 7 gt_z, oI 7 gt_z, oI 7 gt_z, oI 7 gt_z]) hn rfl rfl) ?_
  refine ga_putF kp_X5_23 (gt_lst_at (i := 0) hn rfl) rfl rfl (Nat.le_of_ble_eq_true rfl) rfl dX5_init_41 ?_
  refine ga_heap (gt_lst_setA (i := 0) (ys := [oO 5 [.ref (n + 1 + 1), .ref (n + 1 + 2), .ref (n + 1 + 3), .ref (n + 1 + 10), .int 0, .int 0], oI 6 gt_z, oI 6 gt_z, oR 4 6 (fun i => if i < 6 then some (n + 3 + 2 + i) else none), oI 6 gt_z, oI 6 gt_z, oI 6 gt_z, oI 6 gt_z, oI 6 gt_z, oI 6 gt_z, oR 4 7 (fun i => if i < 7 then some (n + 10 + 2 + i) else none), oI 7 gt_z, oI 7 gt_z, oI 7 gt_z, oI 7 gt_z, oI 7 gt_z, oI 7 gt_z, oI 7 gt_z]) hn (Nat.le_of_ble_eq_true rfl) rfl) ?_
  exact ga_vret dX5_init_44 rfl (fun _ _ q => q)
/-- what X7_init makes -/
def bZ (s : Nat) : List gt_Ob := [oO 7 [.ref (s + 1)], oR 4 6 (fun i => if i < 6 then some (s + 2 + i) else none), oI 200 gt_z, oI 200 gt_z, oI 200 gt_z, oI 200 gt_z, oI 200 gt_z, oI 200 gt_z]
set_option maxRecDepth 100000 in
set_option maxHeartbeats 4000000 in
theorem c_X7_init {l : Launch} {G : gt_G} {L0 : List gt_Ob} {n : Nat} (hn : L0.length = n) : gt_C l G yX7_init cX7_init 1 none 1 7 1206 (n + 1) [.ref (n + 1)] (gt_lst (L0 ++ [oO 7 [.null]])) none (gt_lst (L0 ++ bZ (n + 1))) := by
  refine gt_C_of (own := RX7) (nm := "<init>") rfl rfl (by decide +kernel) (Nat.le_of_ble_eq_true rfl) ?_
  show gt_A _ _ _ _ _ _ _ _ _ _ _ [(0, .ref (n + 1))] _ _
  refine ga_aload_n 0 dX7_init_0 rfl ?_
  refine ga_objInit km_X7_3 kobj (gt_roomC (by decide)) (Nat.le_of_ble_eq_true rfl) dX7_init_1 ?_
  refine ga_aload_n 0 dX7_init_4 rfl ?_
  refine ga_bipush (nI 6) dX7_init_5 (by decide) ?_
  refine ga_sipush (nI 200) dX7_init_7 (by decide) ?_
  refine ga_multi kl_X7_9 karrI (NN := 6) (M := 200) (by decide) (by decide) (by decide) (by decide) (by decide) (by decide) (by decide) (by decide) dX7_init_10 ?_
  refine ga_heap (gt_lst_rowsA (k := 1) (ys := [oO 7 [.null], oR 4 6 (fun i => if i < 6 then some (n + 1 + 2 + i) else none), oI 200 gt_z, oI 200 gt_z, oI 200 gt_z, oI 200 gt_z, oI 200 gt_z, oI 200 gt_z]) hn rfl rfl) ?_
  refine ga_putF kp_X7_11 (gt_lst_at (i := 0) hn rfl) rfl rfl (Nat.le_of_ble_eq_true rfl) rfl dX7_init_14 ?_
  refine ga_heap (gt_lst_setA (i := 0) (ys := [oO 7 [.ref (n + 1 + 1)], oR 4 6 (fun i => if i < 6 then some (n + 1 + 2 + i) else none), oI 200 gt_z, oI 200 gt_z, oI 200 gt_z, oI 200 gt_z, oI 200 gt_z, oI 200 gt_z]) hn (Nat.le_of_ble_eq_true rfl) rfl) ?_
  exact ga_vret dX7_init_17 rfl (fun _ _ q => q)
