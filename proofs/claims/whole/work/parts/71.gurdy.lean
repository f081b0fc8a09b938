def gt_R0 : List gt_Ob := []
theorem gt_R0_len : gt_R0.length = 0 := rfl
def gt_R1 : List gt_Ob := gt_R0 ++ bR 2
theorem gt_R1_len : gt_R1.length = 2 := by
  unfold gt_R1
  rw [List.length_append, gt_R0_len]
  rfl
def gt_R2 : List gt_Ob := gt_R1 ++ bC 4
theorem gt_R2_len : gt_R2.length = 10 := by
  unfold gt_R2
  rw [List.length_append, gt_R1_len]
  rfl
def gt_R3 : List gt_Ob := gt_R2 ++ bC 12
theorem gt_R3_len : gt_R3.length = 18 := by
  unfold gt_R3
  rw [List.length_append, gt_R2_len]
  rfl
def gt_R4 : List gt_Ob := gt_R3 ++ bS 20
theorem gt_R4_len : gt_R4.length = 23 := by
  unfold gt_R4
  rw [List.length_append, gt_R3_len]
  rfl
def gt_R5 : List gt_Ob := gt_R4 ++ bS 25
theorem gt_R5_len : gt_R5.length = 28 := by
  unfold gt_R5
  rw [List.length_append, gt_R4_len]
  rfl
def gt_R6 : List gt_Ob := gt_R5 ++ bY 29
theorem gt_R6_len : gt_R6.length = 110 := by
  unfold gt_R6
  rw [List.length_append, gt_R5_len]
  show 28 + ((bSs 29 16).length + 1 + 1) = 110
  rw [bSs_len]
def gt_R7 : List gt_Ob := gt_R6 ++ [oR 3 2 (fun _ => none)]
theorem gt_R7_len : gt_R7.length = 111 := by
  unfold gt_R7
  rw [List.length_append, gt_R6_len]
  rfl
def gt_R8 : List gt_Ob := gt_R7 ++ bD 113
theorem gt_R8_len : gt_R8.length = 112 := by
  unfold gt_R8
  rw [List.length_append, gt_R7_len]
  rfl
def gt_R9 : List gt_Ob := gt_R8 ++ bN 114
theorem gt_R9_len : gt_R9.length = 121 := by
  unfold gt_R9
  rw [List.length_append, gt_R8_len]
  rfl
def gt_R10 : List gt_Ob := gt_R9 ++ bP 123
theorem gt_R10_len : gt_R10.length = 139 := by
  unfold gt_R10
  rw [List.length_append, gt_R9_len]
  rfl
def gt_R11 : List gt_Ob := gt_R10 ++ bZ 141
theorem gt_R11_len : gt_R11.length = 147 := by
  unfold gt_R11
  rw [List.length_append, gt_R10_len]
  rfl
def gt_LA : List gt_Ob := oO 9 [.ref 2, .ref 4, .ref 12, .ref 20, .ref 25, .ref 30, .ref 112, .ref 113, .ref 114, .ref 123, .ref 141, .int (-1)] :: gt_R11
theorem gt_LA_len : gt_LA.length = 148 := by
  unfold gt_LA
  rw [List.length_cons, gt_R11_len]
theorem gt_LA_img : gt_LA[111]? = some (oR 3 2 (fun _ => none)) := by
  show gt_R11[110]? = _
  unfold gt_R11
  rw [List.getElem?_append_left (by rw [gt_R10_len]; decide)]
  unfold gt_R10
  rw [List.getElem?_append_left (by rw [gt_R9_len]; decide)]
  unfold gt_R9
  rw [List.getElem?_append_left (by rw [gt_R8_len]; decide)]
  unfold gt_R8
  rw [List.getElem?_append_left (by rw [gt_R7_len]; decide)]
  unfold gt_R7
  rw [List.getElem?_append_right (by rw [gt_R6_len]; decide), gt_R6_len]
  rfl
theorem gt_LB_at : gt_lst (gt_LA ++ bI 149) 112 = some (oR 3 2 (fun _ => none)) := by
  rw [show (112 : Nat) = 111 + 1 from rfl, gt_lst_s, List.getElem?_append_left (by rw [gt_LA_len]; decide)]
  exact gt_LA_img
theorem gt_LB_st : gt_lst (gt_LA ++ bI 149) 149 = some (oO 2 [.ref 150, .int 0, .int 0]) := by
  rw [show (149 : Nat) = 148 + 1 from rfl, gt_lst_s, List.getElem?_append_right (by rw [gt_LA_len]; decide), gt_LA_len]
  rfl
def gt_LB : List gt_Ob := (gt_LA ++ bI 149).set 111 (oR 3 2 (va_up (fun _ => none) (nI 0).toNatClampNeg (some 149)))
theorem gt_LB_len : gt_LB.length = 154 := by
  unfold gt_LB
  rw [List.length_set, List.length_append, gt_LA_len]
  rfl
theorem gt_LC_at : gt_lst (gt_LB ++ bI 155) 112 = some (oR 3 2 (va_up (fun _ => none) (nI 0).toNatClampNeg (some 149))) := by
  rw [show (112 : Nat) = 111 + 1 from rfl, gt_lst_s, List.getElem?_append_left (by rw [gt_LB_len]; decide)]
  unfold gt_LB
  rw [List.getElem?_set_self (by rw [List.length_append, gt_LA_len]; decide)]
theorem gt_LC_st : gt_lst (gt_LB ++ bI 155) 155 = some (oO 2 [.ref 156, .int 0, .int 0]) := by
  rw [show (155 : Nat) = 154 + 1 from rfl, gt_lst_s, List.getElem?_append_right (by rw [gt_LB_len]; decide), gt_LB_len]
  rfl
def gt_LC : List gt_Ob := (gt_LB ++ bI 155).set 111 (oR 3 2 (va_up (va_up (fun _ => none) (nI 0).toNatClampNeg (some 149)) (nI 1).toNatClampNeg (some 155)))
theorem gt_LC_len : gt_LC.length = 160 := by
  unfold gt_LC
  rw [List.length_set, List.length_append, gt_LB_len]
  rfl
set_option maxRecDepth 100000 in
set_option maxHeartbeats 4000000 in
theorem c_X9_init {l : Launch} {G : gt_G} : gt_C l G yX9_init cX9_init 2 none 4 159 2335 1 [.ref 1] (gt_lst [oO 9 [.null, .null, .null, .null, .null, .null, .null, .null, .null, .null, .null, .int 0]]) none (gt_lst gt_LC) := by
  refine gt_C_of (own := RX9) (nm := "<init>") rfl rfl (by decide +kernel) (Nat.le_of_ble_eq_true rfl) ?_
  show gt_A _ _ _ _ _ _ _ _ _ _ _ [(0, .ref 1)] _ (gt_lst (oO 9 [.null, .null, .null, .null, .null, .null, .null, .null, .null, .null, .null, .int 0] :: gt_R0))
  refine ga_aload_n 0 dX9_init_0 rfl ?_
  refine ga_objInit km_X9_1 kobj (gt_roomC (by decide)) (Nat.le_of_ble_eq_true rfl) dX9_init_1 ?_
  refine ga_aload_n 0 dX9_init_4 rfl ?_
  refine ga_new kn_X9_7 rfl (by decide) (by decide) dX9_init_5 ?_
  refine ga_heap (gt_lst_push (L := (oO 9 [.null, .null, .null, .null, .null, .null, .null, .null, .null, .null, .null, .int 0] :: gt_R0)) (n := 1) (congrArg Nat.succ gt_R0_len)) ?_
  refine ga_dup dX9_init_8 rfl ?_
  refine ga_callN (List.mem_of_getElem? (i := 0) rfl) kv_X6_init (c_X6_init (L0 := (oO 9 [.null, .null, .null, .null, .null, .null, .null, .null, .null, .null, .null, .int 0] :: gt_R0)) (n := 1) (congrArg Nat.succ gt_R0_len)) (gt_rc1 (by decide) (by decide) (by decide)) (Nat.le_of_ble_eq_true rfl) dX9_init_9 ?_
  refine ga_putF kp_X9_10 rfl rfl rfl (Nat.le_of_ble_eq_true rfl) rfl dX9_init_12 ?_
  refine ga_heap (h' := gt_lst (oO 9 [.ref 2, .null, .null, .null, .null, .null, .null, .null, .null, .null, .null, .int 0] :: gt_R1)) gt_lst_set1 ?_
  refine ga_aload_n 0 dX9_init_15 rfl ?_
  refine ga_new kn_X9_16 rfl (by decide) (by decide) dX9_init_16 ?_
  refine ga_heap (gt_lst_push (L := (oO 9 [.ref 2, .null, .null, .null, .null, .null, .null, .null, .null, .null, .null, .int 0] :: gt_R1)) (n := 3) (congrArg Nat.succ gt_R1_len)) ?_
  refine ga_dup dX9_init_19 rfl ?_
  refine ga_callN (List.mem_of_getElem? (i := 1) rfl) kv_X0_init (c_X0_init (L0 := (oO 9 [.ref 2, .null, .null, .null, .null, .null, .null, .null, .null, .null, .null, .int 0] :: gt_R1)) (n := 3) (congrArg Nat.succ gt_R1_len)) (gt_rc1 (by decide) (by decide) (by decide)) (Nat.le_of_ble_eq_true rfl) dX9_init_20 ?_
  refine ga_put kp_X9_19 rfl rfl rfl (Nat.le_of_ble_eq_true rfl) dX9_init_23 ?_
  refine ga_heap (h' := gt_lst (oO 9 [.ref 2, .ref 4, .null, .null, .null, .null, .null, .null, .null, .null, .null, .int 0] :: gt_R2)) gt_lst_set1 ?_
  refine ga_aload_n 0 dX9_init_26 rfl ?_
  refine ga_new kn_X9_16 rfl (by decide) (by decide) dX9_init_27 ?_
  refine ga_heap (gt_lst_push (L := (oO 9 [.ref 2, .ref 4, .null, .null, .null, .null, .null, .null, .null, .null, .null, .int 0] :: gt_R2)) (n := 11) (congrArg Nat.succ gt_R2_len)) ?_
  refine ga_dup dX9_init_30 rfl ?_
  refine ga_callN (List.mem_of_getElem? (i := 1) rfl) kv_X0_init (c_X0_init (L0 := (oO 9 [.ref 2, .ref 4, .null, .null, .null, .null, .null, .null, .null, .null, .null, .int 0] :: gt_R2)) (n := 11) (congrArg Nat.succ gt_R2_len)) (gt_rc1 (by decide) (by decide) (by decide)) (Nat.le_of_ble_eq_true rfl) dX9_init_31 ?_
  refine ga_put kp_X9_23 rfl rfl rfl (Nat.le_of_ble_eq_true rfl) dX9_init_34 ?_
  refine ga_heap (h' := gt_lst (oO 9 [.ref 2, .ref 4, .ref 12, .null, .null, .null, .null, .null, .null, .null, .null, .int 0] :: gt_R3)) gt_lst_set1 ?_
  refine ga_aload_n 0 dX9_init_37 rfl ?_
  refine ga_new kn_X9_26 rfl (by decide) (by decide) dX9_init_38 ?_
  refine ga_heap (gt_lst_push (L := (oO 9 [.ref 2, .ref 4, .ref 12, .null, .null, .null, .null, .null, .null, .null, .null, .int 0] :: gt_R3)) (n := 19) (congrArg Nat.succ gt_R3_len)) ?_
  refine ga_dup dX9_init_41 rfl ?_
  refine ga_callN (List.mem_of_getElem? (i := 2) rfl) kv_X8_init (c_X8_init (L0 := (oO 9 [.ref 2, .ref 4, .ref 12, .null, .null, .null, .null, .null, .null, .null, .null, .int 0] :: gt_R3)) (n := 19) (congrArg Nat.succ gt_R3_len)) (gt_rc1 (by decide) (by decide) (by decide)) (Nat.le_of_ble_eq_true rfl) dX9_init_42 ?_
  refine ga_putF kp_X9_29 rfl rfl rfl (Nat.le_of_ble_eq_true rfl) rfl dX9_init_45 ?_
  refine ga_heap (h' := gt_lst (oO 9 [.ref 2, .ref 4, .ref 12, .ref 20, .null, .null, .null, .null, .null, .null, .null, .int 0] :: gt_R4)) gt_lst_set1 ?_
  refine ga_aload_n 0 dX9_init_48 rfl ?_
  refine ga_new kn_X9_26 rfl (by decide) (by decide) dX9_init_49 ?_
  refine ga_heap (gt_lst_push (L := (oO 9 [.ref 2, .ref 4, .ref 12, .ref 20, .null, .null, .null, .null, .null, .null, .null, .int 0] :: gt_R4)) (n := 24) (congrArg Nat.succ gt_R4_len)) ?_
  refine ga_dup dX9_init_52 rfl ?_
  refine ga_callN (List.mem_of_getElem? (i := 2) rfl) kv_X8_init (c_X8_init (L0 := (oO 9 [.ref 2, .ref 4, .ref 12, .ref 20, .null, .null, .null, .null, .null, .null, .null, .int 0] :: gt_R4)) (n := 24) (congrArg Nat.succ gt_R4_len)) (gt_rc1 (by decide) (by decide) (by decide)) (Nat.le_of_ble_eq_true rfl) dX9_init_53 ?_
  refine ga_putF kp_X9_33 rfl rfl rfl (Nat.le_of_ble_eq_true rfl) rfl dX9_init_56 ?_
  refine ga_heap (h' := gt_lst (oO 9 [.ref 2, .ref 4, .ref 12, .ref 20, .ref 25, .null, .null, .null, .null, .null, .null, .int 0] :: gt_R5)) gt_lst_set1 ?_
  refine ga_aload_n 0 dX9_init_59 rfl ?_
  refine ga_new kn_X9_36 rfl (by decide) (by decide) dX9_init_60 ?_
  refine ga_heap (gt_lst_push (L := (oO 9 [.ref 2, .ref 4, .ref 12, .ref 20, .ref 25, .null, .null, .null, .null, .null, .null, .int 0] :: gt_R5)) (n := 29) (congrArg Nat.succ gt_R5_len)) ?_
  refine ga_dup dX9_init_63 rfl ?_
  refine ga_callI km_X9_38 kv_X4_init (c_X4_init (L0 := (oO 9 [.ref 2, .ref 4, .ref 12, .ref 20, .ref 25, .null, .null, .null, .null, .null, .null, .int 0] :: gt_R5)) (n := 29) (congrArg Nat.succ gt_R5_len)) (gt_rc1 (by decide) (by decide) (by decide)) (Nat.le_of_ble_eq_true rfl) dX9_init_64 ?_
  refine ga_putF kp_X9_39 rfl rfl rfl (Nat.le_of_ble_eq_true rfl) rfl dX9_init_67 ?_
  refine ga_heap (h' := gt_lst (oO 9 [.ref 2, .ref 4, .ref 12, .ref 20, .ref 25, .ref 30, .null, .null, .null, .null, .null, .int 0] :: gt_R6)) gt_lst_set1 ?_
  refine ga_aload_n 0 dX9_init_70 rfl ?_
  refine ga_iconst (nI 2) dX9_init_71 (by decide) ?_
  refine ga_newR (kd := 3) (M := 2) kl_X9_43 (fun s q => q.2.2.2.2.2.1) rfl (by decide) (by decide) (by decide) (by decide) (by decide) dX9_init_72 ?_
  refine ga_heap (gt_lst_push (L := (oO 9 [.ref 2, .ref 4, .ref 12, .ref 20, .ref 25, .ref 30, .null, .null, .null, .null, .null, .int 0] :: gt_R6)) (n := 111) (congrArg Nat.succ gt_R6_len)) ?_
  refine ga_putF kp_X9_45 rfl rfl rfl (Nat.le_of_ble_eq_true rfl) rfl dX9_init_75 ?_
  refine ga_heap (h' := gt_lst (oO 9 [.ref 2, .ref 4, .ref 12, .ref 20, .ref 25, .ref 30, .ref 112, .null, .null, .null, .null, .int 0] :: gt_R7)) gt_lst_set1 ?_
  refine ga_aload_n 0 dX9_init_78 rfl ?_
  refine ga_new kn_X9_49 rfl (by decide) (by decide) dX9_init_79 ?_
  refine ga_heap (gt_lst_push (L := (oO 9 [.ref 2, .ref 4, .ref 12, .ref 20, .ref 25, .ref 30, .ref 112, .null, .null, .null, .null, .int 0] :: gt_R7)) (n := 112) (congrArg Nat.succ gt_R7_len)) ?_
  refine ga_dup dX9_init_82 rfl ?_
  refine ga_callN (List.mem_of_getElem? (i := 4) rfl) kv_X1_init (c_X1_init (L0 := (oO 9 [.ref 2, .ref 4, .ref 12, .ref 20, .ref 25, .ref 30, .ref 112, .null, .null, .null, .null, .int 0] :: gt_R7)) (n := 112) (congrArg Nat.succ gt_R7_len)) (gt_rc1 (by decide) (by decide) (by decide)) (Nat.le_of_ble_eq_true rfl) dX9_init_83 ?_
  refine ga_putF kp_X9_52 rfl rfl rfl (Nat.le_of_ble_eq_true rfl) rfl dX9_init_86 ?_
  refine ga_heap (h' := gt_lst (oO 9 [.ref 2, .ref 4, .ref 12, .ref 20, .ref 25, .ref 30, .ref 112, .ref 113, .null, .null, .null, .int 0] :: gt_R8)) gt_lst_set1 ?_
  refine ga_aload_n 0 dX9_init_89 rfl ?_
  refine ga_new kn_X9_56 rfl (by decide) (by decide) dX9_init_90 ?_
  refine ga_heap (gt_lst_push (L := (oO 9 [.ref 2, .ref 4, .ref 12, .ref 20, .ref 25, .ref 30, .ref 112, .ref 113, .null, .null, .null, .int 0] :: gt_R8)) (n := 113) (congrArg Nat.succ gt_R8_len)) ?_
  refine ga_dup dX9_init_93 rfl ?_
  refine ga_callN (List.mem_of_getElem? (i := 5) rfl) kv_X3_init (c_X3_init (L0 := (oO 9 [.ref 2, .ref 4, .ref 12, .ref 20, .ref 25, .ref 30, .ref 112, .ref 113, .null, .null, .null, .int 0] :: gt_R8)) (n := 113) (congrArg Nat.succ gt_R8_len)) (gt_rc1 (by decide) (by decide) (by decide)) (Nat.le_of_ble_eq_true rfl) dX9_init_94 ?_
  refine ga_putF kp_X9_59 rfl rfl rfl (Nat.le_of_ble_eq_true rfl) rfl dX9_init_97 ?_
  refine ga_heap (h' := gt_lst (oO 9 [.ref 2, .ref 4, .ref 12, .ref 20, .ref 25, .ref 30, .ref 112, .ref 113, .ref 114, .null, .null, .int 0] :: gt_R9)) gt_lst_set1 ?_
  refine ga_aload_n 0 dX9_init_100 rfl ?_
  refine ga_new kn_X9_63 rfl (by decide) (by decide) dX9_init_101 ?_
  refine ga_heap (gt_lst_push (L := (oO 9 [.ref 2, .ref 4, .ref 12, .ref 20, .ref 25, .ref 30, .ref 112, .ref 113, .ref 114, .null, .null, .int 0] :: gt_R9)) (n := 122) (congrArg Nat.succ gt_R9_len)) ?_
  refine ga_dup dX9_init_104 rfl ?_
  refine ga_callN (List.mem_of_getElem? (i := 6) rfl) kv_X5_init (c_X5_init (L0 := (oO 9 [.ref 2, .ref 4, .ref 12, .ref 20, .ref 25, .ref 30, .ref 112, .ref 113, .ref 114, .null, .null, .int 0] :: gt_R9)) (n := 122) (congrArg Nat.succ gt_R9_len)) (gt_rc1 (by decide) (by decide) (by decide)) (Nat.le_of_ble_eq_true rfl) dX9_init_105 ?_
  refine ga_putF kp_X9_66 rfl rfl rfl (Nat.le_of_ble_eq_true rfl) rfl dX9_init_108 ?_
  refine ga_heap (h' := gt_lst (oO 9 [.ref 2, .ref 4, .ref 12, .ref 20, .ref 25, .ref 30, .ref 112, .ref 113, .ref 114, .ref 123, .null, .int 0] :: gt_R10)) gt_lst_set1 ?_
  refine ga_aload_n 0 dX9_init_111 rfl ?_
  refine ga_new kn_X9_70 rfl (by decide) (by decide) dX9_init_112 ?_
  refine ga_heap (gt_lst_push (L := (oO 9 [.ref 2, .ref 4, .ref 12, .ref 20, .ref 25, .ref 30, .ref 112, .ref 113, .ref 114, .ref 123, .null, .int 0] :: gt_R10)) (n := 140) (congrArg Nat.succ gt_R10_len)) ?_
  refine ga_dup dX9_init_115 rfl ?_
  refine ga_callN (List.mem_of_getElem? (i := 7) rfl) kv_X7_init (c_X7_init (L0 := (oO 9 [.ref 2, .ref 4, .ref 12, .ref 20, .ref 25, .ref 30, .ref 112, .ref 113, .ref 114, .ref 123, .null, .int 0] :: gt_R10)) (n := 140) (congrArg Nat.succ gt_R10_len)) (gt_rc1 (by decide) (by decide) (by decide)) (Nat.le_of_ble_eq_true rfl) dX9_init_116 ?_
  refine ga_putF kp_X9_73 rfl rfl rfl (Nat.le_of_ble_eq_true rfl) rfl dX9_init_119 ?_
  refine ga_heap (h' := gt_lst (oO 9 [.ref 2, .ref 4, .ref 12, .ref 20, .ref 25, .ref 30, .ref 112, .ref 113, .ref 114, .ref 123, .ref 141, .int 0] :: gt_R11)) gt_lst_set1 ?_
  refine ga_aload_n 0 dX9_init_122 rfl ?_
  refine ga_iconst (-1) dX9_init_123 (by decide) ?_
  refine ga_put kp_X9_77 rfl rfl rfl (Nat.le_of_ble_eq_true rfl) dX9_init_124 ?_
  refine ga_heap (h' := gt_lst (oO 9 [.ref 2, .ref 4, .ref 12, .ref 20, .ref 25, .ref 30, .ref 112, .ref 113, .ref 114, .ref 123, .ref 141, .int (-1)] :: gt_R11)) gt_lst_set1' ?_
  refine ga_iconst (nI 0) dX9_init_127 (by decide) ?_
  refine gs_istore_n [(0, _), (1, _)] dX9_init_128 (by decide) rfl rfl ?_
  refine ga_iload_n 1 dX9_init_129 rfl ?_
  refine ga_iconst (nI 2) dX9_init_130 (by decide) ?_
  refine ga_icmp_ge 153 dX9_init_131 (by decide) (fun c_0 => absurd c_0 (by decide)) (fun c_0 => ?_)
  refine ga_aload_n 0 dX9_init_134 rfl ?_
  refine ga_get kf_X9_45 (show gt_lst gt_LA 1 = some (oO 9 [.ref 2, .ref 4, .ref 12, .ref 20, .ref 25, .ref 30, .ref 112, .ref 113, .ref 114, .ref 123, .ref 141, .int (-1)]) from rfl) rfl dX9_init_135 ?_
  refine ga_iload_n 1 dX9_init_138 rfl ?_
  refine ga_new kn_X9_43 rfl (by decide) (by decide) dX9_init_139 ?_
  refine ga_heap (gt_lst_push (L := gt_LA) (n := 148) gt_LA_len) ?_
  refine ga_dup dX9_init_142 rfl ?_
  refine ga_callN (List.mem_of_getElem? (i := 8) rfl) kv_X2_init (c_X2_init (L0 := gt_LA) (n := 148) gt_LA_len) (gt_rc1 (by decide) (by decide) (by decide)) (Nat.le_of_ble_eq_true rfl) dX9_init_143 ?_
  refine ga_aast (a := 112) (b := 149) (kd := 3) (M := 2) (ci := 2) gt_LB_at rfl gt_LB_st rfl (vp_in_nI (by decide) (by decide)) dX9_init_146 ?_
  refine ga_heap (h' := gt_lst gt_LB) (gt_lst_set (by rw [List.length_append, gt_LA_len]; decide)) ?_
  refine gs_iincN 1 1 [(0, _), (1, _)] dX9_init_147 rfl (by decide) (by decide) rfl rfl ?_
  refine ga_goto 129 dX9_init_150 (by decide) ?_
  refine ga_iload_n 1 dX9_init_129 rfl ?_
  refine ga_iconst (nI 2) dX9_init_130 (by decide) ?_
  refine ga_icmp_ge 153 dX9_init_131 (by decide) (fun c_1 => absurd c_1 (by decide)) (fun c_1 => ?_)
  refine ga_aload_n 0 dX9_init_134 rfl ?_
  refine ga_get kf_X9_45 (show gt_lst gt_LB 1 = some (oO 9 [.ref 2, .ref 4, .ref 12, .ref 20, .ref 25, .ref 30, .ref 112, .ref 113, .ref 114, .ref 123, .ref 141, .int (-1)]) from rfl) rfl dX9_init_135 ?_
  refine ga_iload_n 1 dX9_init_138 rfl ?_
  refine ga_new kn_X9_43 rfl (by decide) (by decide) dX9_init_139 ?_
  refine ga_heap (gt_lst_push (L := gt_LB) (n := 154) gt_LB_len) ?_
  refine ga_dup dX9_init_142 rfl ?_
  refine ga_callN (List.mem_of_getElem? (i := 8) rfl) kv_X2_init (c_X2_init (L0 := gt_LB) (n := 154) gt_LB_len) (gt_rc1 (by decide) (by decide) (by decide)) (Nat.le_of_ble_eq_true rfl) dX9_init_143 ?_
  refine ga_aast (a := 112) (b := 155) (kd := 3) (M := 2) (ci := 2) gt_LC_at rfl gt_LC_st rfl (vp_in_nI (by decide) (by decide)) dX9_init_146 ?_
  refine ga_heap (h' := gt_lst gt_LC) (gt_lst_set (by rw [List.length_append, gt_LB_len]; decide)) ?_
  refine gs_iincN 1 1 [(0, _), (1, _)] dX9_init_147 rfl (by decide) (by decide) rfl rfl ?_
  refine ga_goto 129 dX9_init_150 (by decide) ?_
  refine ga_iload_n 1 dX9_init_129 rfl ?_
  refine ga_iconst (nI 2) dX9_init_130 (by decide) ?_
  refine ga_icmp_ge 153 dX9_init_131 (by decide) (fun c_9 => ?_) (fun c_9 => absurd (by decide) c_9)
  exact ga_vret dX9_init_153 rfl (fun _ _ q => q)
