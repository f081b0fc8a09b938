theorem gt_inP {ws : List Cond} (ps : List Nat) (hp : ws = ps.filterMap (fun i => tables_1[i]?)) (hg : ws.all goodWord = true) : ∀ w ∈ ws, w ∈ gt_tbl := fun w hw => by
  have h1 := List.all_eq_true.mp hg w hw
  rw [hp] at hw
  obtain ⟨i, -, hi⟩ := List.mem_filterMap.mp hw
  exact gt_mem i hi h1
theorem kin_X0 : ∀ w ∈ u_ws RX0 TX0 11, w ∈ gt_tbl := gt_inP [102, 104, 106, 108, 110, 112, 114, 116, 118, 120, 122] (by decide +kernel) (by decide +kernel)
theorem kin_X1 : ∀ w ∈ u_ws RX1 TX1 1, w ∈ gt_tbl := gt_inP [191] (by decide +kernel) (by decide +kernel)
theorem kin_X2 : ∀ w ∈ u_ws RX2 TX2 3, w ∈ gt_tbl := gt_inP [287, 289, 291] (by decide +kernel) (by decide +kernel)
theorem kin_X3 : ∀ w ∈ u_ws RX3 TX3 11, w ∈ gt_tbl := gt_inP [214, 216, 218, 220, 222, 224, 226, 228, 230, 232, 234] (by decide +kernel) (by decide +kernel)
theorem kin_X4 : ∀ w ∈ u_ws RX4 TX4 3, w ∈ gt_tbl := gt_inP [174, 176, 178] (by decide +kernel) (by decide +kernel)
theorem kin_X5 : ∀ w ∈ u_ws RX5 TX5 6, w ∈ gt_tbl := gt_inP [252, 254, 256, 258, 260, 262] (by decide +kernel) (by decide +kernel)
theorem kin_X6 : ∀ w ∈ u_ws RX6 TX6 5, w ∈ gt_tbl := gt_inP [34, 36, 38, 40, 42] (by decide +kernel) (by decide +kernel)
theorem kin_X7 : ∀ w ∈ u_ws RX7 TX7 1, w ∈ gt_tbl := gt_inP [273] (by decide +kernel) (by decide +kernel)
theorem kin_X8 : ∀ w ∈ u_ws RX8 TX8 6, w ∈ gt_tbl := gt_inP [148, 150, 152, 154, 156, 158] (by decide +kernel) (by decide +kernel)
theorem kin_X9 : ∀ w ∈ u_ws RX9 TX9 12, w ∈ gt_tbl := gt_inP [306, 308, 310, 312, 314, 316, 318, 320, 322, 324, 326, 328] (by decide +kernel) (by decide +kernel)
theorem kin_X10 : ∀ w ∈ u_ws RX10 TX10 29, w ∈ gt_tbl := gt_inP [846, 848, 850, 852, 854, 856, 858, 860, 862, 864, 866, 868, 870, 872, 874, 876, 878, 880, 882, 884, 886, 888, 890, 892, 894, 896, 898, 900, 902] (by decide +kernel) (by decide +kernel)
theorem kf_X6_9 : gt_Fr RX6 9 6 0 := ⟨_, _, _, rfl, by decide, gt_mem 29 (by decide +kernel) rfl, kin_X6⟩
theorem kp_X6_9 : gt_F RX6 9 6 0 (.array .int) true := ⟨_, _, _, tyX6, rfl, by decide, gt_mem 29 (by decide +kernel) rfl, tyX6_ok 0 (by decide), rfl, kin_X6, tyX6_ok, nmX6, (fun _ => rfl)⟩
theorem kf_X6_19 : gt_Fr RX6 19 6 1 := ⟨_, _, _, rfl, by decide, gt_mem 30 (by decide +kernel) rfl, kin_X6⟩
theorem kp_X6_19 : gt_F RX6 19 6 1 .int false := ⟨_, _, _, tyX6, rfl, by decide, gt_mem 30 (by decide +kernel) rfl, tyX6_ok 1 (by decide), rfl, kin_X6, tyX6_ok, nmX6, (fun q => by cases q)⟩
theorem kf_X6_23 : gt_Fr RX6 23 6 2 := ⟨_, _, _, rfl, by decide, gt_mem 31 (by decide +kernel) rfl, kin_X6⟩
theorem kp_X6_23 : gt_F RX6 23 6 2 .int false := ⟨_, _, _, tyX6, rfl, by decide, gt_mem 31 (by decide +kernel) rfl, tyX6_ok 2 (by decide), rfl, kin_X6, tyX6_ok, nmX6, (fun q => by cases q)⟩
theorem kf_X6_26 : gt_Fr RX6 26 6 3 := ⟨_, _, _, rfl, by decide, gt_mem 32 (by decide +kernel) rfl, kin_X6⟩
theorem kp_X6_26 : gt_F RX6 26 6 3 .int false := ⟨_, _, _, tyX6, rfl, by decide, gt_mem 32 (by decide +kernel) rfl, tyX6_ok 3 (by decide), rfl, kin_X6, tyX6_ok, nmX6, (fun q => by cases q)⟩
theorem kf_X6_15 : gt_Fr RX6 15 6 4 := ⟨_, _, _, rfl, by decide, gt_mem 33 (by decide +kernel) rfl, kin_X6⟩
theorem kp_X6_15 : gt_F RX6 15 6 4 .int false := ⟨_, _, _, tyX6, rfl, by decide, gt_mem 33 (by decide +kernel) rfl, tyX6_ok 4 (by decide), rfl, kin_X6, tyX6_ok, nmX6, (fun q => by cases q)⟩
theorem kf_X0_33 : gt_Fr RX0 33 0 0 := ⟨_, _, _, rfl, by decide, gt_mem 52 (by decide +kernel) rfl, kin_X0⟩
theorem kp_X0_33 : gt_F RX0 33 0 0 .int false := ⟨_, _, _, tyX0, rfl, by decide, gt_mem 52 (by decide +kernel) rfl, tyX0_ok 0 (by decide), rfl, kin_X0, tyX0_ok, nmX0, (fun q => by cases q)⟩
theorem kf_X9_113 : gt_Fr RX9 113 0 0 := ⟨_, _, _, rfl, by decide, gt_mem 53 (by decide +kernel) rfl, kin_X0⟩
theorem kp_X9_113 : gt_F RX9 113 0 0 .int false := ⟨_, _, _, tyX0, rfl, by decide, gt_mem 53 (by decide +kernel) rfl, tyX0_ok 0 (by decide), rfl, kin_X0, tyX0_ok, nmX0, (fun q => by cases q)⟩
theorem kf_X7_61 : gt_Fr RX7 61 0 0 := ⟨_, _, _, rfl, by decide, gt_mem 54 (by decide +kernel) rfl, kin_X0⟩
theorem kp_X7_61 : gt_F RX7 61 0 0 .int false := ⟨_, _, _, tyX0, rfl, by decide, gt_mem 54 (by decide +kernel) rfl, tyX0_ok 0 (by decide), rfl, kin_X0, tyX0_ok, nmX0, (fun q => by cases q)⟩
theorem kf_X6_56 : gt_Fr RX6 56 0 0 := ⟨_, _, _, rfl, by decide, gt_mem 55 (by decide +kernel) rfl, kin_X0⟩
theorem kp_X6_56 : gt_F RX6 56 0 0 .int false := ⟨_, _, _, tyX0, rfl, by decide, gt_mem 55 (by decide +kernel) rfl, tyX0_ok 0 (by decide), rfl, kin_X0, tyX0_ok, nmX0, (fun q => by cases q)⟩
theorem kf_X8_107 : gt_Fr RX8 107 0 0 := ⟨_, _, _, rfl, by decide, gt_mem 56 (by decide +kernel) rfl, kin_X0⟩
theorem kp_X8_107 : gt_F RX8 107 0 0 .int false := ⟨_, _, _, tyX0, rfl, by decide, gt_mem 56 (by decide +kernel) rfl, tyX0_ok 0 (by decide), rfl, kin_X0, tyX0_ok, nmX0, (fun q => by cases q)⟩
theorem kf_X0_37 : gt_Fr RX0 37 0 1 := ⟨_, _, _, rfl, by decide, gt_mem 57 (by decide +kernel) rfl, kin_X0⟩
theorem kp_X0_37 : gt_F RX0 37 0 1 .int false := ⟨_, _, _, tyX0, rfl, by decide, gt_mem 57 (by decide +kernel) rfl, tyX0_ok 1 (by decide), rfl, kin_X0, tyX0_ok, nmX0, (fun q => by cases q)⟩
theorem kf_X5_49 : gt_Fr RX5 49 0 1 := ⟨_, _, _, rfl, by decide, gt_mem 58 (by decide +kernel) rfl, kin_X0⟩
theorem kp_X5_49 : gt_F RX5 49 0 1 .int false := ⟨_, _, _, tyX0, rfl, by decide, gt_mem 58 (by decide +kernel) rfl, tyX0_ok 1 (by decide), rfl, kin_X0, tyX0_ok, nmX0, (fun q => by cases q)⟩
theorem kf_X1_45 : gt_Fr RX1 45 0 1 := ⟨_, _, _, rfl, by decide, gt_mem 59 (by decide +kernel) rfl, kin_X0⟩
theorem kp_X1_45 : gt_F RX1 45 0 1 .int false := ⟨_, _, _, tyX0, rfl, by decide, gt_mem 59 (by decide +kernel) rfl, tyX0_ok 1 (by decide), rfl, kin_X0, tyX0_ok, nmX0, (fun q => by cases q)⟩
theorem kf_X9_116 : gt_Fr RX9 116 0 1 := ⟨_, _, _, rfl, by decide, gt_mem 60 (by decide +kernel) rfl, kin_X0⟩
theorem kp_X9_116 : gt_F RX9 116 0 1 .int false := ⟨_, _, _, tyX0, rfl, by decide, gt_mem 60 (by decide +kernel) rfl, tyX0_ok 1 (by decide), rfl, kin_X0, tyX0_ok, nmX0, (fun q => by cases q)⟩
theorem kf_X6_76 : gt_Fr RX6 76 0 1 := ⟨_, _, _, rfl, by decide, gt_mem 61 (by decide +kernel) rfl, kin_X0⟩
theorem kp_X6_76 : gt_F RX6 76 0 1 .int false := ⟨_, _, _, tyX0, rfl, by decide, gt_mem 61 (by decide +kernel) rfl, tyX0_ok 1 (by decide), rfl, kin_X0, tyX0_ok, nmX0, (fun q => by cases q)⟩
theorem kf_X8_85 : gt_Fr RX8 85 0 1 := ⟨_, _, _, rfl, by decide, gt_mem 62 (by decide +kernel) rfl, kin_X0⟩
theorem kp_X8_85 : gt_F RX8 85 0 1 .int false := ⟨_, _, _, tyX0, rfl, by decide, gt_mem 62 (by decide +kernel) rfl, tyX0_ok 1 (by decide), rfl, kin_X0, tyX0_ok, nmX0, (fun q => by cases q)⟩
theorem kf_X7_16 : gt_Fr RX7 16 0 2 := ⟨_, _, _, rfl, by decide, gt_mem 63 (by decide +kernel) rfl, kin_X0⟩
theorem kp_X7_16 : gt_F RX7 16 0 2 .int false := ⟨_, _, _, tyX0, rfl, by decide, gt_mem 63 (by decide +kernel) rfl, tyX0_ok 2 (by decide), rfl, kin_X0, tyX0_ok, nmX0, (fun q => by cases q)⟩
theorem kf_X0_40 : gt_Fr RX0 40 0 2 := ⟨_, _, _, rfl, by decide, gt_mem 64 (by decide +kernel) rfl, kin_X0⟩
theorem kp_X0_40 : gt_F RX0 40 0 2 .int false := ⟨_, _, _, tyX0, rfl, by decide, gt_mem 64 (by decide +kernel) rfl, tyX0_ok 2 (by decide), rfl, kin_X0, tyX0_ok, nmX0, (fun q => by cases q)⟩
theorem kf_X5_46 : gt_Fr RX5 46 0 2 := ⟨_, _, _, rfl, by decide, gt_mem 65 (by decide +kernel) rfl, kin_X0⟩
theorem kp_X5_46 : gt_F RX5 46 0 2 .int false := ⟨_, _, _, tyX0, rfl, by decide, gt_mem 65 (by decide +kernel) rfl, tyX0_ok 2 (by decide), rfl, kin_X0, tyX0_ok, nmX0, (fun q => by cases q)⟩
theorem kf_X1_22 : gt_Fr RX1 22 0 2 := ⟨_, _, _, rfl, by decide, gt_mem 66 (by decide +kernel) rfl, kin_X0⟩
theorem kp_X1_22 : gt_F RX1 22 0 2 .int false := ⟨_, _, _, tyX0, rfl, by decide, gt_mem 66 (by decide +kernel) rfl, tyX0_ok 2 (by decide), rfl, kin_X0, tyX0_ok, nmX0, (fun q => by cases q)⟩
theorem kf_X9_119 : gt_Fr RX9 119 0 2 := ⟨_, _, _, rfl, by decide, gt_mem 67 (by decide +kernel) rfl, kin_X0⟩
theorem kp_X9_119 : gt_F RX9 119 0 2 .int false := ⟨_, _, _, tyX0, rfl, by decide, gt_mem 67 (by decide +kernel) rfl, tyX0_ok 2 (by decide), rfl, kin_X0, tyX0_ok, nmX0, (fun q => by cases q)⟩
theorem kf_X8_51 : gt_Fr RX8 51 0 2 := ⟨_, _, _, rfl, by decide, gt_mem 68 (by decide +kernel) rfl, kin_X0⟩
theorem kp_X8_51 : gt_F RX8 51 0 2 .int false := ⟨_, _, _, tyX0, rfl, by decide, gt_mem 68 (by decide +kernel) rfl, tyX0_ok 2 (by decide), rfl, kin_X0, tyX0_ok, nmX0, (fun q => by cases q)⟩
theorem kf_X6_85 : gt_Fr RX6 85 0 2 := ⟨_, _, _, rfl, by decide, gt_mem 69 (by decide +kernel) rfl, kin_X0⟩
theorem kp_X6_85 : gt_F RX6 85 0 2 .int false := ⟨_, _, _, tyX0, rfl, by decide, gt_mem 69 (by decide +kernel) rfl, tyX0_ok 2 (by decide), rfl, kin_X0, tyX0_ok, nmX0, (fun q => by cases q)⟩
theorem kf_X0_43 : gt_Fr RX0 43 0 3 := ⟨_, _, _, rfl, by decide, gt_mem 70 (by decide +kernel) rfl, kin_X0⟩
theorem kp_X0_43 : gt_F RX0 43 0 3 .int false := ⟨_, _, _, tyX0, rfl, by decide, gt_mem 70 (by decide +kernel) rfl, tyX0_ok 3 (by decide), rfl, kin_X0, tyX0_ok, nmX0, (fun q => by cases q)⟩
theorem kf_X8_37 : gt_Fr RX8 37 0 3 := ⟨_, _, _, rfl, by decide, gt_mem 71 (by decide +kernel) rfl, kin_X0⟩
theorem kp_X8_37 : gt_F RX8 37 0 3 .int false := ⟨_, _, _, tyX0, rfl, by decide, gt_mem 71 (by decide +kernel) rfl, tyX0_ok 3 (by decide), rfl, kin_X0, tyX0_ok, nmX0, (fun q => by cases q)⟩
theorem kf_X9_122 : gt_Fr RX9 122 0 3 := ⟨_, _, _, rfl, by decide, gt_mem 72 (by decide +kernel) rfl, kin_X0⟩
theorem kp_X9_122 : gt_F RX9 122 0 3 .int false := ⟨_, _, _, tyX0, rfl, by decide, gt_mem 72 (by decide +kernel) rfl, tyX0_ok 3 (by decide), rfl, kin_X0, tyX0_ok, nmX0, (fun q => by cases q)⟩
theorem kf_X6_91 : gt_Fr RX6 91 0 3 := ⟨_, _, _, rfl, by decide, gt_mem 73 (by decide +kernel) rfl, kin_X0⟩
theorem kp_X6_91 : gt_F RX6 91 0 3 .int false := ⟨_, _, _, tyX0, rfl, by decide, gt_mem 73 (by decide +kernel) rfl, tyX0_ok 3 (by decide), rfl, kin_X0, tyX0_ok, nmX0, (fun q => by cases q)⟩
theorem kf_X0_9 : gt_Fr RX0 9 0 4 := ⟨_, _, _, rfl, by decide, gt_mem 74 (by decide +kernel) rfl, kin_X0⟩
theorem kp_X0_9 : gt_F RX0 9 0 4 (.array .int) true := ⟨_, _, _, tyX0, rfl, by decide, gt_mem 74 (by decide +kernel) rfl, tyX0_ok 4 (by decide), rfl, kin_X0, tyX0_ok, nmX0, (fun _ => rfl)⟩
theorem kf_X5_26 : gt_Fr RX5 26 0 4 := ⟨_, _, _, rfl, by decide, gt_mem 75 (by decide +kernel) rfl, kin_X0⟩
theorem kf_X6_49 : gt_Fr RX6 49 0 4 := ⟨_, _, _, rfl, by decide, gt_mem 76 (by decide +kernel) rfl, kin_X0⟩
theorem kf_X9_176 : gt_Fr RX9 176 0 4 := ⟨_, _, _, rfl, by decide, gt_mem 77 (by decide +kernel) rfl, kin_X0⟩
theorem kf_X8_104 : gt_Fr RX8 104 0 4 := ⟨_, _, _, rfl, by decide, gt_mem 78 (by decide +kernel) rfl, kin_X0⟩
theorem kf_X0_15 : gt_Fr RX0 15 0 5 := ⟨_, _, _, rfl, by decide, gt_mem 79 (by decide +kernel) rfl, kin_X0⟩
theorem kp_X0_15 : gt_F RX0 15 0 5 (.array .int) true := ⟨_, _, _, tyX0, rfl, by decide, gt_mem 79 (by decide +kernel) rfl, tyX0_ok 5 (by decide), rfl, kin_X0, tyX0_ok, nmX0, (fun _ => rfl)⟩
theorem kf_X9_193 : gt_Fr RX9 193 0 5 := ⟨_, _, _, rfl, by decide, gt_mem 80 (by decide +kernel) rfl, kin_X0⟩
theorem kf_X6_79 : gt_Fr RX6 79 0 5 := ⟨_, _, _, rfl, by decide, gt_mem 81 (by decide +kernel) rfl, kin_X0⟩
theorem kf_X0_18 : gt_Fr RX0 18 0 6 := ⟨_, _, _, rfl, by decide, gt_mem 82 (by decide +kernel) rfl, kin_X0⟩
theorem kp_X0_18 : gt_F RX0 18 0 6 (.array .int) true := ⟨_, _, _, tyX0, rfl, by decide, gt_mem 82 (by decide +kernel) rfl, tyX0_ok 6 (by decide), rfl, kin_X0, tyX0_ok, nmX0, (fun _ => rfl)⟩
theorem kf_X9_196 : gt_Fr RX9 196 0 6 := ⟨_, _, _, rfl, by decide, gt_mem 83 (by decide +kernel) rfl, kin_X0⟩
theorem kf_X6_82 : gt_Fr RX6 82 0 6 := ⟨_, _, _, rfl, by decide, gt_mem 84 (by decide +kernel) rfl, kin_X0⟩
theorem kf_X0_21 : gt_Fr RX0 21 0 7 := ⟨_, _, _, rfl, by decide, gt_mem 85 (by decide +kernel) rfl, kin_X0⟩
theorem kp_X0_21 : gt_F RX0 21 0 7 (.array .int) true := ⟨_, _, _, tyX0, rfl, by decide, gt_mem 85 (by decide +kernel) rfl, tyX0_ok 7 (by decide), rfl, kin_X0, tyX0_ok, nmX0, (fun _ => rfl)⟩
theorem kf_X5_95 : gt_Fr RX5 95 0 7 := ⟨_, _, _, rfl, by decide, gt_mem 86 (by decide +kernel) rfl, kin_X0⟩
theorem kf_X9_208 : gt_Fr RX9 208 0 7 := ⟨_, _, _, rfl, by decide, gt_mem 87 (by decide +kernel) rfl, kin_X0⟩
theorem kf_X6_88 : gt_Fr RX6 88 0 7 := ⟨_, _, _, rfl, by decide, gt_mem 88 (by decide +kernel) rfl, kin_X0⟩
theorem kf_X8_69 : gt_Fr RX8 69 0 7 := ⟨_, _, _, rfl, by decide, gt_mem 89 (by decide +kernel) rfl, kin_X0⟩
theorem kf_X0_24 : gt_Fr RX0 24 0 8 := ⟨_, _, _, rfl, by decide, gt_mem 90 (by decide +kernel) rfl, kin_X0⟩
theorem kp_X0_24 : gt_F RX0 24 0 8 (.array .int) true := ⟨_, _, _, tyX0, rfl, by decide, gt_mem 90 (by decide +kernel) rfl, tyX0_ok 8 (by decide), rfl, kin_X0, tyX0_ok, nmX0, (fun _ => rfl)⟩
theorem kf_X9_223 : gt_Fr RX9 223 0 8 := ⟨_, _, _, rfl, by decide, gt_mem 91 (by decide +kernel) rfl, kin_X0⟩
theorem kf_X6_94 : gt_Fr RX6 94 0 8 := ⟨_, _, _, rfl, by decide, gt_mem 92 (by decide +kernel) rfl, kin_X0⟩
theorem kf_X8_95 : gt_Fr RX8 95 0 8 := ⟨_, _, _, rfl, by decide, gt_mem 93 (by decide +kernel) rfl, kin_X0⟩
theorem kf_X0_27 : gt_Fr RX0 27 0 9 := ⟨_, _, _, rfl, by decide, gt_mem 94 (by decide +kernel) rfl, kin_X0⟩
theorem kp_X0_27 : gt_F RX0 27 0 9 (.array .int) true := ⟨_, _, _, tyX0, rfl, by decide, gt_mem 94 (by decide +kernel) rfl, tyX0_ok 9 (by decide), rfl, kin_X0, tyX0_ok, nmX0, (fun _ => rfl)⟩
theorem kf_X8_42 : gt_Fr RX8 42 0 9 := ⟨_, _, _, rfl, by decide, gt_mem 95 (by decide +kernel) rfl, kin_X0⟩
theorem kf_X9_229 : gt_Fr RX9 229 0 9 := ⟨_, _, _, rfl, by decide, gt_mem 96 (by decide +kernel) rfl, kin_X0⟩
theorem kf_X6_97 : gt_Fr RX6 97 0 9 := ⟨_, _, _, rfl, by decide, gt_mem 97 (by decide +kernel) rfl, kin_X0⟩
theorem kf_X0_30 : gt_Fr RX0 30 0 10 := ⟨_, _, _, rfl, by decide, gt_mem 98 (by decide +kernel) rfl, kin_X0⟩
theorem kp_X0_30 : gt_F RX0 30 0 10 (.array .int) true := ⟨_, _, _, tyX0, rfl, by decide, gt_mem 98 (by decide +kernel) rfl, tyX0_ok 10 (by decide), rfl, kin_X0, tyX0_ok, nmX0, (fun _ => rfl)⟩
theorem kf_X9_232 : gt_Fr RX9 232 0 10 := ⟨_, _, _, rfl, by decide, gt_mem 99 (by decide +kernel) rfl, kin_X0⟩
theorem kf_X6_100 : gt_Fr RX6 100 0 10 := ⟨_, _, _, rfl, by decide, gt_mem 100 (by decide +kernel) rfl, kin_X0⟩
theorem kf_X8_88 : gt_Fr RX8 88 0 10 := ⟨_, _, _, rfl, by decide, gt_mem 101 (by decide +kernel) rfl, kin_X0⟩
theorem kf_X8_24 : gt_Fr RX8 24 8 0 := ⟨_, _, _, rfl, by decide, gt_mem 131 (by decide +kernel) rfl, kin_X8⟩
theorem kp_X8_24 : gt_F RX8 24 8 0 .int false := ⟨_, _, _, tyX8, rfl, by decide, gt_mem 131 (by decide +kernel) rfl, tyX8_ok 0 (by decide), rfl, kin_X8, tyX8_ok, nmX8, (fun q => by cases q)⟩
theorem kf_X9_128 : gt_Fr RX9 128 8 0 := ⟨_, _, _, rfl, by decide, gt_mem 132 (by decide +kernel) rfl, kin_X8⟩
theorem kp_X9_128 : gt_F RX9 128 8 0 .int false := ⟨_, _, _, tyX8, rfl, by decide, gt_mem 132 (by decide +kernel) rfl, tyX8_ok 0 (by decide), rfl, kin_X8, tyX8_ok, nmX8, (fun q => by cases q)⟩
theorem kf_X8_28 : gt_Fr RX8 28 8 1 := ⟨_, _, _, rfl, by decide, gt_mem 133 (by decide +kernel) rfl, kin_X8⟩
theorem kp_X8_28 : gt_F RX8 28 8 1 .int false := ⟨_, _, _, tyX8, rfl, by decide, gt_mem 133 (by decide +kernel) rfl, tyX8_ok 1 (by decide), rfl, kin_X8, tyX8_ok, nmX8, (fun q => by cases q)⟩
theorem kf_X7_54 : gt_Fr RX7 54 8 1 := ⟨_, _, _, rfl, by decide, gt_mem 134 (by decide +kernel) rfl, kin_X8⟩
theorem kp_X7_54 : gt_F RX7 54 8 1 .int false := ⟨_, _, _, tyX8, rfl, by decide, gt_mem 134 (by decide +kernel) rfl, tyX8_ok 1 (by decide), rfl, kin_X8, tyX8_ok, nmX8, (fun q => by cases q)⟩
theorem kf_X9_149 : gt_Fr RX9 149 8 1 := ⟨_, _, _, rfl, by decide, gt_mem 135 (by decide +kernel) rfl, kin_X8⟩
theorem kp_X9_149 : gt_F RX9 149 8 1 .int false := ⟨_, _, _, tyX8, rfl, by decide, gt_mem 135 (by decide +kernel) rfl, tyX8_ok 1 (by decide), rfl, kin_X8, tyX8_ok, nmX8, (fun q => by cases q)⟩
theorem kf_X8_9 : gt_Fr RX8 9 8 2 := ⟨_, _, _, rfl, by decide, gt_mem 136 (by decide +kernel) rfl, kin_X8⟩
theorem kp_X8_9 : gt_F RX8 9 8 2 (.array .int) true := ⟨_, _, _, tyX8, rfl, by decide, gt_mem 136 (by decide +kernel) rfl, tyX8_ok 2 (by decide), rfl, kin_X8, tyX8_ok, nmX8, (fun _ => rfl)⟩
theorem kf_X5_62 : gt_Fr RX5 62 8 2 := ⟨_, _, _, rfl, by decide, gt_mem 137 (by decide +kernel) rfl, kin_X8⟩
theorem kf_X9_199 : gt_Fr RX9 199 8 2 := ⟨_, _, _, rfl, by decide, gt_mem 138 (by decide +kernel) rfl, kin_X8⟩
theorem kf_X8_15 : gt_Fr RX8 15 8 3 := ⟨_, _, _, rfl, by decide, gt_mem 139 (by decide +kernel) rfl, kin_X8⟩
theorem kp_X8_15 : gt_F RX8 15 8 3 (.array .int) true := ⟨_, _, _, tyX8, rfl, by decide, gt_mem 139 (by decide +kernel) rfl, tyX8_ok 3 (by decide), rfl, kin_X8, tyX8_ok, nmX8, (fun _ => rfl)⟩
theorem kf_X7_22 : gt_Fr RX7 22 8 3 := ⟨_, _, _, rfl, by decide, gt_mem 140 (by decide +kernel) rfl, kin_X8⟩
theorem kf_X1_37 : gt_Fr RX1 37 8 3 := ⟨_, _, _, rfl, by decide, gt_mem 141 (by decide +kernel) rfl, kin_X8⟩
theorem kf_X9_214 : gt_Fr RX9 214 8 3 := ⟨_, _, _, rfl, by decide, gt_mem 142 (by decide +kernel) rfl, kin_X8⟩
theorem kf_X8_18 : gt_Fr RX8 18 8 4 := ⟨_, _, _, rfl, by decide, gt_mem 143 (by decide +kernel) rfl, kin_X8⟩
theorem kp_X8_18 : gt_F RX8 18 8 4 (.array .int) true := ⟨_, _, _, tyX8, rfl, by decide, gt_mem 143 (by decide +kernel) rfl, tyX8_ok 4 (by decide), rfl, kin_X8, tyX8_ok, nmX8, (fun _ => rfl)⟩
theorem kf_X5_98 : gt_Fr RX5 98 8 4 := ⟨_, _, _, rfl, by decide, gt_mem 144 (by decide +kernel) rfl, kin_X8⟩
theorem kf_X9_211 : gt_Fr RX9 211 8 4 := ⟨_, _, _, rfl, by decide, gt_mem 145 (by decide +kernel) rfl, kin_X8⟩
theorem kf_X8_21 : gt_Fr RX8 21 8 5 := ⟨_, _, _, rfl, by decide, gt_mem 146 (by decide +kernel) rfl, kin_X8⟩
theorem kp_X8_21 : gt_F RX8 21 8 5 (.array .int) true := ⟨_, _, _, tyX8, rfl, by decide, gt_mem 146 (by decide +kernel) rfl, tyX8_ok 5 (by decide), rfl, kin_X8, tyX8_ok, nmX8, (fun _ => rfl)⟩
theorem kf_X9_226 : gt_Fr RX9 226 8 5 := ⟨_, _, _, rfl, by decide, gt_mem 147 (by decide +kernel) rfl, kin_X8⟩
theorem kf_X4_11 : gt_Fr RX4 11 4 0 := ⟨_, _, _, rfl, by decide, gt_mem 170 (by decide +kernel) rfl, kin_X4⟩
theorem kp_X4_11 : gt_F RX4 11 4 0 (.array (.object "GurdyTide$State")) true := ⟨_, _, _, tyX4, rfl, by decide, gt_mem 170 (by decide +kernel) rfl, tyX4_ok 0 (by decide), rfl, kin_X4, tyX4_ok, nmX4, (fun _ => rfl)⟩
theorem kf_X4_18 : gt_Fr RX4 18 4 1 := ⟨_, _, _, rfl, by decide, gt_mem 171 (by decide +kernel) rfl, kin_X4⟩
theorem kp_X4_18 : gt_F RX4 18 4 1 .int false := ⟨_, _, _, tyX4, rfl, by decide, gt_mem 171 (by decide +kernel) rfl, tyX4_ok 1 (by decide), rfl, kin_X4, tyX4_ok, nmX4, (fun q => by cases q)⟩
theorem kf_X4_26 : gt_Fr RX4 26 4 2 := ⟨_, _, _, rfl, by decide, gt_mem 172 (by decide +kernel) rfl, kin_X4⟩
theorem kp_X4_26 : gt_F RX4 26 4 2 .int false := ⟨_, _, _, tyX4, rfl, by decide, gt_mem 172 (by decide +kernel) rfl, tyX4_ok 2 (by decide), rfl, kin_X4, tyX4_ok, nmX4, (fun q => by cases q)⟩
theorem kf_X9_168 : gt_Fr RX9 168 4 2 := ⟨_, _, _, rfl, by decide, gt_mem 173 (by decide +kernel) rfl, kin_X4⟩
theorem kp_X9_168 : gt_F RX9 168 4 2 .int false := ⟨_, _, _, tyX4, rfl, by decide, gt_mem 173 (by decide +kernel) rfl, tyX4_ok 2 (by decide), rfl, kin_X4, tyX4_ok, nmX4, (fun q => by cases q)⟩
theorem kf_X1_9 : gt_Fr RX1 9 1 0 := ⟨_, _, _, rfl, by decide, gt_mem 189 (by decide +kernel) rfl, kin_X1⟩
theorem kp_X1_9 : gt_F RX1 9 1 0 .int false := ⟨_, _, _, tyX1, rfl, by decide, gt_mem 189 (by decide +kernel) rfl, tyX1_ok 0 (by decide), rfl, kin_X1, tyX1_ok, nmX1, (fun q => by cases q)⟩
theorem kf_X9_304 : gt_Fr RX9 304 1 0 := ⟨_, _, _, rfl, by decide, gt_mem 190 (by decide +kernel) rfl, kin_X1⟩
theorem kp_X9_304 : gt_F RX9 304 1 0 .int false := ⟨_, _, _, tyX1, rfl, by decide, gt_mem 190 (by decide +kernel) rfl, tyX1_ok 0 (by decide), rfl, kin_X1, tyX1_ok, nmX1, (fun q => by cases q)⟩
theorem kf_X3_36 : gt_Fr RX3 36 3 0 := ⟨_, _, _, rfl, by decide, gt_mem 200 (by decide +kernel) rfl, kin_X3⟩
theorem kp_X3_36 : gt_F RX3 36 3 0 .int false := ⟨_, _, _, tyX3, rfl, by decide, gt_mem 200 (by decide +kernel) rfl, tyX3_ok 0 (by decide), rfl, kin_X3, tyX3_ok, nmX3, (fun q => by cases q)⟩
theorem kf_X9_152 : gt_Fr RX9 152 3 0 := ⟨_, _, _, rfl, by decide, gt_mem 201 (by decide +kernel) rfl, kin_X3⟩
theorem kp_X9_152 : gt_F RX9 152 3 0 .int false := ⟨_, _, _, tyX3, rfl, by decide, gt_mem 201 (by decide +kernel) rfl, tyX3_ok 0 (by decide), rfl, kin_X3, tyX3_ok, nmX3, (fun q => by cases q)⟩
theorem kf_X3_40 : gt_Fr RX3 40 3 1 := ⟨_, _, _, rfl, by decide, gt_mem 202 (by decide +kernel) rfl, kin_X3⟩
theorem kp_X3_40 : gt_F RX3 40 3 1 .int false := ⟨_, _, _, tyX3, rfl, by decide, gt_mem 202 (by decide +kernel) rfl, tyX3_ok 1 (by decide), rfl, kin_X3, tyX3_ok, nmX3, (fun q => by cases q)⟩
theorem kf_X9_159 : gt_Fr RX9 159 3 1 := ⟨_, _, _, rfl, by decide, gt_mem 203 (by decide +kernel) rfl, kin_X3⟩
theorem kp_X9_159 : gt_F RX9 159 3 1 .int false := ⟨_, _, _, tyX3, rfl, by decide, gt_mem 203 (by decide +kernel) rfl, tyX3_ok 1 (by decide), rfl, kin_X3, tyX3_ok, nmX3, (fun q => by cases q)⟩
theorem kf_X3_43 : gt_Fr RX3 43 3 2 := ⟨_, _, _, rfl, by decide, gt_mem 204 (by decide +kernel) rfl, kin_X3⟩
theorem kp_X3_43 : gt_F RX3 43 3 2 .int false := ⟨_, _, _, tyX3, rfl, by decide, gt_mem 204 (by decide +kernel) rfl, tyX3_ok 2 (by decide), rfl, kin_X3, tyX3_ok, nmX3, (fun q => by cases q)⟩
theorem kf_X9_165 : gt_Fr RX9 165 3 2 := ⟨_, _, _, rfl, by decide, gt_mem 205 (by decide +kernel) rfl, kin_X3⟩
theorem kp_X9_165 : gt_F RX9 165 3 2 .int false := ⟨_, _, _, tyX3, rfl, by decide, gt_mem 205 (by decide +kernel) rfl, tyX3_ok 2 (by decide), rfl, kin_X3, tyX3_ok, nmX3, (fun q => by cases q)⟩
theorem kf_X3_9 : gt_Fr RX3 9 3 3 := ⟨_, _, _, rfl, by decide, gt_mem 206 (by decide +kernel) rfl, kin_X3⟩
theorem kp_X3_9 : gt_F RX3 9 3 3 (.array .int) true := ⟨_, _, _, tyX3, rfl, by decide, gt_mem 206 (by decide +kernel) rfl, tyX3_ok 3 (by decide), rfl, kin_X3, tyX3_ok, nmX3, (fun _ => rfl)⟩
theorem kf_X3_15 : gt_Fr RX3 15 3 4 := ⟨_, _, _, rfl, by decide, gt_mem 207 (by decide +kernel) rfl, kin_X3⟩
theorem kp_X3_15 : gt_F RX3 15 3 4 (.array .int) true := ⟨_, _, _, tyX3, rfl, by decide, gt_mem 207 (by decide +kernel) rfl, tyX3_ok 4 (by decide), rfl, kin_X3, tyX3_ok, nmX3, (fun _ => rfl)⟩
theorem kf_X3_18 : gt_Fr RX3 18 3 5 := ⟨_, _, _, rfl, by decide, gt_mem 208 (by decide +kernel) rfl, kin_X3⟩
theorem kp_X3_18 : gt_F RX3 18 3 5 (.array .int) true := ⟨_, _, _, tyX3, rfl, by decide, gt_mem 208 (by decide +kernel) rfl, tyX3_ok 5 (by decide), rfl, kin_X3, tyX3_ok, nmX3, (fun _ => rfl)⟩
theorem kf_X3_21 : gt_Fr RX3 21 3 6 := ⟨_, _, _, rfl, by decide, gt_mem 209 (by decide +kernel) rfl, kin_X3⟩
theorem kp_X3_21 : gt_F RX3 21 3 6 (.array .int) true := ⟨_, _, _, tyX3, rfl, by decide, gt_mem 209 (by decide +kernel) rfl, tyX3_ok 6 (by decide), rfl, kin_X3, tyX3_ok, nmX3, (fun _ => rfl)⟩
theorem kf_X3_24 : gt_Fr RX3 24 3 7 := ⟨_, _, _, rfl, by decide, gt_mem 210 (by decide +kernel) rfl, kin_X3⟩
theorem kp_X3_24 : gt_F RX3 24 3 7 (.array .int) true := ⟨_, _, _, tyX3, rfl, by decide, gt_mem 210 (by decide +kernel) rfl, tyX3_ok 7 (by decide), rfl, kin_X3, tyX3_ok, nmX3, (fun _ => rfl)⟩
theorem kf_X3_27 : gt_Fr RX3 27 3 8 := ⟨_, _, _, rfl, by decide, gt_mem 211 (by decide +kernel) rfl, kin_X3⟩
theorem kp_X3_27 : gt_F RX3 27 3 8 (.array .int) true := ⟨_, _, _, tyX3, rfl, by decide, gt_mem 211 (by decide +kernel) rfl, tyX3_ok 8 (by decide), rfl, kin_X3, tyX3_ok, nmX3, (fun _ => rfl)⟩
theorem kf_X3_30 : gt_Fr RX3 30 3 9 := ⟨_, _, _, rfl, by decide, gt_mem 212 (by decide +kernel) rfl, kin_X3⟩
theorem kp_X3_30 : gt_F RX3 30 3 9 (.array .int) true := ⟨_, _, _, tyX3, rfl, by decide, gt_mem 212 (by decide +kernel) rfl, tyX3_ok 9 (by decide), rfl, kin_X3, tyX3_ok, nmX3, (fun _ => rfl)⟩
theorem kf_X3_33 : gt_Fr RX3 33 3 10 := ⟨_, _, _, rfl, by decide, gt_mem 213 (by decide +kernel) rfl, kin_X3⟩
theorem kp_X3_33 : gt_F RX3 33 3 10 (.array .int) true := ⟨_, _, _, tyX3, rfl, by decide, gt_mem 213 (by decide +kernel) rfl, tyX3_ok 10 (by decide), rfl, kin_X3, tyX3_ok, nmX3, (fun _ => rfl)⟩
theorem kf_X5_9 : gt_Fr RX5 9 5 0 := ⟨_, _, _, rfl, by decide, gt_mem 245 (by decide +kernel) rfl, kin_X5⟩
theorem kp_X5_9 : gt_F RX5 9 5 0 (.array .int) true := ⟨_, _, _, tyX5, rfl, by decide, gt_mem 245 (by decide +kernel) rfl, tyX5_ok 0 (by decide), rfl, kin_X5, tyX5_ok, nmX5, (fun _ => rfl)⟩
theorem kf_X9_271 : gt_Fr RX9 271 5 0 := ⟨_, _, _, rfl, by decide, gt_mem 246 (by decide +kernel) rfl, kin_X5⟩
theorem kf_X5_15 : gt_Fr RX5 15 5 1 := ⟨_, _, _, rfl, by decide, gt_mem 247 (by decide +kernel) rfl, kin_X5⟩
theorem kp_X5_15 : gt_F RX5 15 5 1 (.array .int) true := ⟨_, _, _, tyX5, rfl, by decide, gt_mem 247 (by decide +kernel) rfl, tyX5_ok 1 (by decide), rfl, kin_X5, tyX5_ok, nmX5, (fun _ => rfl)⟩
theorem kf_X5_20 : gt_Fr RX5 20 5 2 := ⟨_, _, _, rfl, by decide, gt_mem 248 (by decide +kernel) rfl, kin_X5⟩
theorem kp_X5_20 : gt_F RX5 20 5 2 (.array (.array .int)) true := ⟨_, _, _, tyX5, rfl, by decide, gt_mem 248 (by decide +kernel) rfl, tyX5_ok 2 (by decide), rfl, kin_X5, tyX5_ok, nmX5, (fun _ => rfl)⟩
theorem kf_X5_23 : gt_Fr RX5 23 5 3 := ⟨_, _, _, rfl, by decide, gt_mem 249 (by decide +kernel) rfl, kin_X5⟩
theorem kp_X5_23 : gt_F RX5 23 5 3 (.array (.array .int)) true := ⟨_, _, _, tyX5, rfl, by decide, gt_mem 249 (by decide +kernel) rfl, tyX5_ok 3 (by decide), rfl, kin_X5, tyX5_ok, nmX5, (fun _ => rfl)⟩
theorem kf_X5_43 : gt_Fr RX5 43 5 4 := ⟨_, _, _, rfl, by decide, gt_mem 250 (by decide +kernel) rfl, kin_X5⟩
theorem kp_X5_43 : gt_F RX5 43 5 4 .int false := ⟨_, _, _, tyX5, rfl, by decide, gt_mem 250 (by decide +kernel) rfl, tyX5_ok 4 (by decide), rfl, kin_X5, tyX5_ok, nmX5, (fun q => by cases q)⟩
theorem kf_X5_35 : gt_Fr RX5 35 5 5 := ⟨_, _, _, rfl, by decide, gt_mem 251 (by decide +kernel) rfl, kin_X5⟩
theorem kp_X5_35 : gt_F RX5 35 5 5 .int false := ⟨_, _, _, tyX5, rfl, by decide, gt_mem 251 (by decide +kernel) rfl, tyX5_ok 5 (by decide), rfl, kin_X5, tyX5_ok, nmX5, (fun q => by cases q)⟩
theorem kf_X7_11 : gt_Fr RX7 11 7 0 := ⟨_, _, _, rfl, by decide, gt_mem 272 (by decide +kernel) rfl, kin_X7⟩
theorem kp_X7_11 : gt_F RX7 11 7 0 (.array (.array .int)) true := ⟨_, _, _, tyX7, rfl, by decide, gt_mem 272 (by decide +kernel) rfl, tyX7_ok 0 (by decide), rfl, kin_X7, tyX7_ok, nmX7, (fun _ => rfl)⟩
theorem kf_X2_10 : gt_Fr RX2 10 2 0 := ⟨_, _, _, rfl, by decide, gt_mem 283 (by decide +kernel) rfl, kin_X2⟩
theorem kp_X2_10 : gt_F RX2 10 2 0 (.object "GurdyTide$State") true := ⟨_, _, _, tyX2, rfl, by decide, gt_mem 283 (by decide +kernel) rfl, tyX2_ok 0 (by decide), rfl, kin_X2, tyX2_ok, nmX2, (fun _ => rfl)⟩
theorem kf_X9_307 : gt_Fr RX9 307 2 0 := ⟨_, _, _, rfl, by decide, gt_mem 284 (by decide +kernel) rfl, kin_X2⟩
theorem kf_X9_310 : gt_Fr RX9 310 2 1 := ⟨_, _, _, rfl, by decide, gt_mem 285 (by decide +kernel) rfl, kin_X2⟩
theorem kp_X9_310 : gt_F RX9 310 2 1 .int false := ⟨_, _, _, tyX2, rfl, by decide, gt_mem 285 (by decide +kernel) rfl, tyX2_ok 1 (by decide), rfl, kin_X2, tyX2_ok, nmX2, (fun q => by cases q)⟩
theorem kf_X9_109 : gt_Fr RX9 109 2 2 := ⟨_, _, _, rfl, by decide, gt_mem 286 (by decide +kernel) rfl, kin_X2⟩
theorem kp_X9_109 : gt_F RX9 109 2 2 .boolean false := ⟨_, _, _, tyX2, rfl, by decide, gt_mem 286 (by decide +kernel) rfl, tyX2_ok 2 (by decide), rfl, kin_X2, tyX2_ok, nmX2, (fun q => by cases q)⟩
theorem kf_X9_10 : gt_Fr RX9 10 9 0 := ⟨_, _, _, rfl, by decide, gt_mem 294 (by decide +kernel) rfl, kin_X9⟩
theorem kp_X9_10 : gt_F RX9 10 9 0 (.object "GurdyTide$Reader") true := ⟨_, _, _, tyX9, rfl, by decide, gt_mem 294 (by decide +kernel) rfl, tyX9_ok 0 (by decide), rfl, kin_X9, tyX9_ok, nmX9, (fun _ => rfl)⟩
theorem kf_X9_19 : gt_Fr RX9 19 9 1 := ⟨_, _, _, rfl, by decide, gt_mem 295 (by decide +kernel) rfl, kin_X9⟩
theorem kp_X9_19 : gt_F RX9 19 9 1 (.object "GurdyTide$Coast") false := ⟨_, _, _, tyX9, rfl, by decide, gt_mem 295 (by decide +kernel) rfl, tyX9_ok 1 (by decide), rfl, kin_X9, tyX9_ok, nmX9, (fun q => by cases q)⟩
theorem kf_X9_23 : gt_Fr RX9 23 9 2 := ⟨_, _, _, rfl, by decide, gt_mem 296 (by decide +kernel) rfl, kin_X9⟩
theorem kp_X9_23 : gt_F RX9 23 9 2 (.object "GurdyTide$Coast") false := ⟨_, _, _, tyX9, rfl, by decide, gt_mem 296 (by decide +kernel) rfl, tyX9_ok 2 (by decide), rfl, kin_X9, tyX9_ok, nmX9, (fun q => by cases q)⟩
theorem kf_X9_29 : gt_Fr RX9 29 9 3 := ⟨_, _, _, rfl, by decide, gt_mem 297 (by decide +kernel) rfl, kin_X9⟩
theorem kp_X9_29 : gt_F RX9 29 9 3 (.object "GurdyTide$State") true := ⟨_, _, _, tyX9, rfl, by decide, gt_mem 297 (by decide +kernel) rfl, tyX9_ok 3 (by decide), rfl, kin_X9, tyX9_ok, nmX9, (fun _ => rfl)⟩
theorem kf_X9_33 : gt_Fr RX9 33 9 4 := ⟨_, _, _, rfl, by decide, gt_mem 298 (by decide +kernel) rfl, kin_X9⟩
theorem kp_X9_33 : gt_F RX9 33 9 4 (.object "GurdyTide$State") true := ⟨_, _, _, tyX9, rfl, by decide, gt_mem 298 (by decide +kernel) rfl, tyX9_ok 4 (by decide), rfl, kin_X9, tyX9_ok, nmX9, (fun _ => rfl)⟩
theorem kf_X9_39 : gt_Fr RX9 39 9 5 := ⟨_, _, _, rfl, by decide, gt_mem 299 (by decide +kernel) rfl, kin_X9⟩
theorem kp_X9_39 : gt_F RX9 39 9 5 (.object "GurdyTide$Past") true := ⟨_, _, _, tyX9, rfl, by decide, gt_mem 299 (by decide +kernel) rfl, tyX9_ok 5 (by decide), rfl, kin_X9, tyX9_ok, nmX9, (fun _ => rfl)⟩
theorem kf_X9_45 : gt_Fr RX9 45 9 6 := ⟨_, _, _, rfl, by decide, gt_mem 300 (by decide +kernel) rfl, kin_X9⟩
theorem kp_X9_45 : gt_F RX9 45 9 6 (.array (.object "GurdyTide$Image")) true := ⟨_, _, _, tyX9, rfl, by decide, gt_mem 300 (by decide +kernel) rfl, tyX9_ok 6 (by decide), rfl, kin_X9, tyX9_ok, nmX9, (fun _ => rfl)⟩
theorem kf_X9_52 : gt_Fr RX9 52 9 7 := ⟨_, _, _, rfl, by decide, gt_mem 301 (by decide +kernel) rfl, kin_X9⟩
theorem kp_X9_52 : gt_F RX9 52 9 7 (.object "GurdyTide$Draws") true := ⟨_, _, _, tyX9, rfl, by decide, gt_mem 301 (by decide +kernel) rfl, tyX9_ok 7 (by decide), rfl, kin_X9, tyX9_ok, nmX9, (fun _ => rfl)⟩
theorem kf_X9_59 : gt_Fr RX9 59 9 8 := ⟨_, _, _, rfl, by decide, gt_mem 302 (by decide +kernel) rfl, kin_X9⟩
theorem kp_X9_59 : gt_F RX9 59 9 8 (.object "GurdyTide$Notes") true := ⟨_, _, _, tyX9, rfl, by decide, gt_mem 302 (by decide +kernel) rfl, tyX9_ok 8 (by decide), rfl, kin_X9, tyX9_ok, nmX9, (fun _ => rfl)⟩
theorem kf_X9_66 : gt_Fr RX9 66 9 9 := ⟨_, _, _, rfl, by decide, gt_mem 303 (by decide +kernel) rfl, kin_X9⟩
theorem kp_X9_66 : gt_F RX9 66 9 9 (.object "GurdyTide$Plan") true := ⟨_, _, _, tyX9, rfl, by decide, gt_mem 303 (by decide +kernel) rfl, tyX9_ok 9 (by decide), rfl, kin_X9, tyX9_ok, nmX9, (fun _ => rfl)⟩
theorem kf_X9_73 : gt_Fr RX9 73 9 10 := ⟨_, _, _, rfl, by decide, gt_mem 304 (by decide +kernel) rfl, kin_X9⟩
theorem kp_X9_73 : gt_F RX9 73 9 10 (.object "GurdyTide$Sleepers") true := ⟨_, _, _, tyX9, rfl, by decide, gt_mem 304 (by decide +kernel) rfl, tyX9_ok 10 (by decide), rfl, kin_X9, tyX9_ok, nmX9, (fun _ => rfl)⟩
theorem kf_X9_77 : gt_Fr RX9 77 9 11 := ⟨_, _, _, rfl, by decide, gt_mem 305 (by decide +kernel) rfl, kin_X9⟩
theorem kp_X9_77 : gt_F RX9 77 9 11 .int false := ⟨_, _, _, tyX9, rfl, by decide, gt_mem 305 (by decide +kernel) rfl, tyX9_ok 11 (by decide), rfl, kin_X9, tyX9_ok, nmX9, (fun q => by cases q)⟩
theorem kf_X10_7 : gt_Fr RX10 7 10 0 := ⟨_, _, _, rfl, by decide, gt_mem 817 (by decide +kernel) rfl, kin_X10⟩
theorem kp_X10_7 : gt_F RX10 7 10 0 (.array .int) true := ⟨_, _, _, tyX10, rfl, by decide, gt_mem 817 (by decide +kernel) rfl, tyX10_ok 0 (by decide), rfl, kin_X10, tyX10_ok, nmX10, (fun _ => rfl)⟩
theorem kf_X10_13 : gt_Fr RX10 13 10 1 := ⟨_, _, _, rfl, by decide, gt_mem 818 (by decide +kernel) rfl, kin_X10⟩
theorem kp_X10_13 : gt_F RX10 13 10 1 (.array .int) true := ⟨_, _, _, tyX10, rfl, by decide, gt_mem 818 (by decide +kernel) rfl, tyX10_ok 1 (by decide), rfl, kin_X10, tyX10_ok, nmX10, (fun _ => rfl)⟩
theorem kf_X10_16 : gt_Fr RX10 16 10 2 := ⟨_, _, _, rfl, by decide, gt_mem 819 (by decide +kernel) rfl, kin_X10⟩
theorem kp_X10_16 : gt_F RX10 16 10 2 (.array .int) true := ⟨_, _, _, tyX10, rfl, by decide, gt_mem 819 (by decide +kernel) rfl, tyX10_ok 2 (by decide), rfl, kin_X10, tyX10_ok, nmX10, (fun _ => rfl)⟩
theorem kf_X10_19 : gt_Fr RX10 19 10 3 := ⟨_, _, _, rfl, by decide, gt_mem 820 (by decide +kernel) rfl, kin_X10⟩
theorem kp_X10_19 : gt_F RX10 19 10 3 (.array .int) true := ⟨_, _, _, tyX10, rfl, by decide, gt_mem 820 (by decide +kernel) rfl, tyX10_ok 3 (by decide), rfl, kin_X10, tyX10_ok, nmX10, (fun _ => rfl)⟩
theorem kf_X10_22 : gt_Fr RX10 22 10 4 := ⟨_, _, _, rfl, by decide, gt_mem 821 (by decide +kernel) rfl, kin_X10⟩
theorem kp_X10_22 : gt_F RX10 22 10 4 (.array .int) true := ⟨_, _, _, tyX10, rfl, by decide, gt_mem 821 (by decide +kernel) rfl, tyX10_ok 4 (by decide), rfl, kin_X10, tyX10_ok, nmX10, (fun _ => rfl)⟩
theorem kf_X10_72 : gt_Fr RX10 72 10 5 := ⟨_, _, _, rfl, by decide, gt_mem 822 (by decide +kernel) rfl, kin_X10⟩
theorem kp_X10_72 : gt_F RX10 72 10 5 .int false := ⟨_, _, _, tyX10, rfl, by decide, gt_mem 822 (by decide +kernel) rfl, tyX10_ok 5 (by decide), rfl, kin_X10, tyX10_ok, nmX10, (fun q => by cases q)⟩
theorem kf_X10_25 : gt_Fr RX10 25 10 6 := ⟨_, _, _, rfl, by decide, gt_mem 823 (by decide +kernel) rfl, kin_X10⟩
theorem kp_X10_25 : gt_F RX10 25 10 6 (.array .int) true := ⟨_, _, _, tyX10, rfl, by decide, gt_mem 823 (by decide +kernel) rfl, tyX10_ok 6 (by decide), rfl, kin_X10, tyX10_ok, nmX10, (fun _ => rfl)⟩
theorem kf_X10_28 : gt_Fr RX10 28 10 7 := ⟨_, _, _, rfl, by decide, gt_mem 824 (by decide +kernel) rfl, kin_X10⟩
theorem kp_X10_28 : gt_F RX10 28 10 7 (.array .boolean) true := ⟨_, _, _, tyX10, rfl, by decide, gt_mem 824 (by decide +kernel) rfl, tyX10_ok 7 (by decide), rfl, kin_X10, tyX10_ok, nmX10, (fun _ => rfl)⟩
theorem kf_X10_237 : gt_Fr RX10 237 10 8 := ⟨_, _, _, rfl, by decide, gt_mem 825 (by decide +kernel) rfl, kin_X10⟩
theorem kp_X10_237 : gt_F RX10 237 10 8 .long false := ⟨_, _, _, tyX10, rfl, by decide, gt_mem 825 (by decide +kernel) rfl, tyX10_ok 8 (by decide), rfl, kin_X10, tyX10_ok, nmX10, (fun q => by cases q)⟩
theorem kf_X10_32 : gt_Fr RX10 32 10 9 := ⟨_, _, _, rfl, by decide, gt_mem 826 (by decide +kernel) rfl, kin_X10⟩
theorem kp_X10_32 : gt_F RX10 32 10 9 (.array .int) true := ⟨_, _, _, tyX10, rfl, by decide, gt_mem 826 (by decide +kernel) rfl, tyX10_ok 9 (by decide), rfl, kin_X10, tyX10_ok, nmX10, (fun _ => rfl)⟩
theorem kf_X10_87 : gt_Fr RX10 87 10 10 := ⟨_, _, _, rfl, by decide, gt_mem 827 (by decide +kernel) rfl, kin_X10⟩
theorem kp_X10_87 : gt_F RX10 87 10 10 .int false := ⟨_, _, _, tyX10, rfl, by decide, gt_mem 827 (by decide +kernel) rfl, tyX10_ok 10 (by decide), rfl, kin_X10, tyX10_ok, nmX10, (fun q => by cases q)⟩
theorem kf_X10_35 : gt_Fr RX10 35 10 11 := ⟨_, _, _, rfl, by decide, gt_mem 828 (by decide +kernel) rfl, kin_X10⟩
theorem kp_X10_35 : gt_F RX10 35 10 11 .int false := ⟨_, _, _, tyX10, rfl, by decide, gt_mem 828 (by decide +kernel) rfl, tyX10_ok 11 (by decide), rfl, kin_X10, tyX10_ok, nmX10, (fun q => by cases q)⟩
theorem kf_X10_39 : gt_Fr RX10 39 10 12 := ⟨_, _, _, rfl, by decide, gt_mem 829 (by decide +kernel) rfl, kin_X10⟩
theorem kp_X10_39 : gt_F RX10 39 10 12 (.array .int) true := ⟨_, _, _, tyX10, rfl, by decide, gt_mem 829 (by decide +kernel) rfl, tyX10_ok 12 (by decide), rfl, kin_X10, tyX10_ok, nmX10, (fun _ => rfl)⟩
theorem kf_X10_75 : gt_Fr RX10 75 10 13 := ⟨_, _, _, rfl, by decide, gt_mem 830 (by decide +kernel) rfl, kin_X10⟩
theorem kp_X10_75 : gt_F RX10 75 10 13 .int false := ⟨_, _, _, tyX10, rfl, by decide, gt_mem 830 (by decide +kernel) rfl, tyX10_ok 13 (by decide), rfl, kin_X10, tyX10_ok, nmX10, (fun q => by cases q)⟩
theorem kf_X10_42 : gt_Fr RX10 42 10 14 := ⟨_, _, _, rfl, by decide, gt_mem 831 (by decide +kernel) rfl, kin_X10⟩
theorem kp_X10_42 : gt_F RX10 42 10 14 (.array .int) true := ⟨_, _, _, tyX10, rfl, by decide, gt_mem 831 (by decide +kernel) rfl, tyX10_ok 14 (by decide), rfl, kin_X10, tyX10_ok, nmX10, (fun _ => rfl)⟩
theorem kf_X10_78 : gt_Fr RX10 78 10 15 := ⟨_, _, _, rfl, by decide, gt_mem 832 (by decide +kernel) rfl, kin_X10⟩
theorem kp_X10_78 : gt_F RX10 78 10 15 .int false := ⟨_, _, _, tyX10, rfl, by decide, gt_mem 832 (by decide +kernel) rfl, tyX10_ok 15 (by decide), rfl, kin_X10, tyX10_ok, nmX10, (fun q => by cases q)⟩
theorem kf_X10_45 : gt_Fr RX10 45 10 16 := ⟨_, _, _, rfl, by decide, gt_mem 833 (by decide +kernel) rfl, kin_X10⟩
theorem kp_X10_45 : gt_F RX10 45 10 16 (.array .int) true := ⟨_, _, _, tyX10, rfl, by decide, gt_mem 833 (by decide +kernel) rfl, tyX10_ok 16 (by decide), rfl, kin_X10, tyX10_ok, nmX10, (fun _ => rfl)⟩
theorem kf_X10_81 : gt_Fr RX10 81 10 17 := ⟨_, _, _, rfl, by decide, gt_mem 834 (by decide +kernel) rfl, kin_X10⟩
theorem kp_X10_81 : gt_F RX10 81 10 17 .int false := ⟨_, _, _, tyX10, rfl, by decide, gt_mem 834 (by decide +kernel) rfl, tyX10_ok 17 (by decide), rfl, kin_X10, tyX10_ok, nmX10, (fun q => by cases q)⟩
theorem kf_X10_91 : gt_Fr RX10 91 10 18 := ⟨_, _, _, rfl, by decide, gt_mem 835 (by decide +kernel) rfl, kin_X10⟩
theorem kp_X10_91 : gt_F RX10 91 10 18 .int false := ⟨_, _, _, tyX10, rfl, by decide, gt_mem 835 (by decide +kernel) rfl, tyX10_ok 18 (by decide), rfl, kin_X10, tyX10_ok, nmX10, (fun q => by cases q)⟩
theorem kf_X10_98 : gt_Fr RX10 98 10 19 := ⟨_, _, _, rfl, by decide, gt_mem 836 (by decide +kernel) rfl, kin_X10⟩
theorem kp_X10_98 : gt_F RX10 98 10 19 .int false := ⟨_, _, _, tyX10, rfl, by decide, gt_mem 836 (by decide +kernel) rfl, tyX10_ok 19 (by decide), rfl, kin_X10, tyX10_ok, nmX10, (fun q => by cases q)⟩
theorem kf_X10_101 : gt_Fr RX10 101 10 20 := ⟨_, _, _, rfl, by decide, gt_mem 837 (by decide +kernel) rfl, kin_X10⟩
theorem kp_X10_101 : gt_F RX10 101 10 20 .int false := ⟨_, _, _, tyX10, rfl, by decide, gt_mem 837 (by decide +kernel) rfl, tyX10_ok 20 (by decide), rfl, kin_X10, tyX10_ok, nmX10, (fun q => by cases q)⟩
theorem kf_X10_104 : gt_Fr RX10 104 10 21 := ⟨_, _, _, rfl, by decide, gt_mem 838 (by decide +kernel) rfl, kin_X10⟩
theorem kp_X10_104 : gt_F RX10 104 10 21 .int false := ⟨_, _, _, tyX10, rfl, by decide, gt_mem 838 (by decide +kernel) rfl, tyX10_ok 21 (by decide), rfl, kin_X10, tyX10_ok, nmX10, (fun q => by cases q)⟩
theorem kf_X10_107 : gt_Fr RX10 107 10 22 := ⟨_, _, _, rfl, by decide, gt_mem 839 (by decide +kernel) rfl, kin_X10⟩
theorem kp_X10_107 : gt_F RX10 107 10 22 .int false := ⟨_, _, _, tyX10, rfl, by decide, gt_mem 839 (by decide +kernel) rfl, tyX10_ok 22 (by decide), rfl, kin_X10, tyX10_ok, nmX10, (fun q => by cases q)⟩
theorem kf_X10_114 : gt_Fr RX10 114 10 23 := ⟨_, _, _, rfl, by decide, gt_mem 840 (by decide +kernel) rfl, kin_X10⟩
theorem kp_X10_114 : gt_F RX10 114 10 23 .int false := ⟨_, _, _, tyX10, rfl, by decide, gt_mem 840 (by decide +kernel) rfl, tyX10_ok 23 (by decide), rfl, kin_X10, tyX10_ok, nmX10, (fun q => by cases q)⟩
theorem kf_X10_48 : gt_Fr RX10 48 10 24 := ⟨_, _, _, rfl, by decide, gt_mem 841 (by decide +kernel) rfl, kin_X10⟩
theorem kp_X10_48 : gt_F RX10 48 10 24 (.array .int) true := ⟨_, _, _, tyX10, rfl, by decide, gt_mem 841 (by decide +kernel) rfl, tyX10_ok 24 (by decide), rfl, kin_X10, tyX10_ok, nmX10, (fun _ => rfl)⟩
theorem kf_X10_51 : gt_Fr RX10 51 10 25 := ⟨_, _, _, rfl, by decide, gt_mem 842 (by decide +kernel) rfl, kin_X10⟩
theorem kp_X10_51 : gt_F RX10 51 10 25 (.array .int) true := ⟨_, _, _, tyX10, rfl, by decide, gt_mem 842 (by decide +kernel) rfl, tyX10_ok 25 (by decide), rfl, kin_X10, tyX10_ok, nmX10, (fun _ => rfl)⟩
theorem kf_X10_260 : gt_Fr RX10 260 10 26 := ⟨_, _, _, rfl, by decide, gt_mem 843 (by decide +kernel) rfl, kin_X10⟩
theorem kp_X10_260 : gt_F RX10 260 10 26 .int false := ⟨_, _, _, tyX10, rfl, by decide, gt_mem 843 (by decide +kernel) rfl, tyX10_ok 26 (by decide), rfl, kin_X10, tyX10_ok, nmX10, (fun q => by cases q)⟩
theorem kf_X10_263 : gt_Fr RX10 263 10 27 := ⟨_, _, _, rfl, by decide, gt_mem 844 (by decide +kernel) rfl, kin_X10⟩
theorem kp_X10_263 : gt_F RX10 263 10 27 .int false := ⟨_, _, _, tyX10, rfl, by decide, gt_mem 844 (by decide +kernel) rfl, tyX10_ok 27 (by decide), rfl, kin_X10, tyX10_ok, nmX10, (fun q => by cases q)⟩
theorem kf_X10_54 : gt_Fr RX10 54 10 28 := ⟨_, _, _, rfl, by decide, gt_mem 845 (by decide +kernel) rfl, kin_X10⟩
theorem kp_X10_54 : gt_F RX10 54 10 28 (.array .int) true := ⟨_, _, _, tyX10, rfl, by decide, gt_mem 845 (by decide +kernel) rfl, tyX10_ok 28 (by decide), rfl, kin_X10, tyX10_ok, nmX10, (fun _ => rfl)⟩
theorem km_L_9 : Cond.methodLink RL 9 yX9_init ∈ gt_tbl := gt_mem 17 (by decide +kernel) rfl
theorem kv_X9_init : gt_I yX9_init cX9_init 2 0 := ⟨rfl, gt_mem 18 (by decide +kernel) rfl, gt_mem 1 (by decide +kernel) rfl, gt_mem 19 (by decide +kernel) rfl, ⟨by decide +kernel, by decide +kernel, by decide +kernel⟩, by decide⟩
theorem km_X9_1 : Cond.methodLink RX9 1 Lib.objectInit ∈ gt_tbl := gt_mem 20 (by decide +kernel) rfl
theorem kv_X6_init : gt_I yX6_init cX6_init 1 0 := ⟨rfl, gt_mem 26 (by decide +kernel) rfl, gt_mem 2 (by decide +kernel) rfl, gt_mem 27 (by decide +kernel) rfl, ⟨by decide +kernel, by decide +kernel, by decide +kernel⟩, by decide⟩
theorem km_X6_3 : Cond.methodLink RX6 3 Lib.objectInit ∈ gt_tbl := gt_mem 28 (by decide +kernel) rfl
theorem kv_X0_init : gt_I yX0_init cX0_init 1 0 := ⟨rfl, gt_mem 49 (by decide +kernel) rfl, gt_mem 3 (by decide +kernel) rfl, gt_mem 50 (by decide +kernel) rfl, ⟨by decide +kernel, by decide +kernel, by decide +kernel⟩, by decide⟩
theorem km_X0_3 : Cond.methodLink RX0 3 Lib.objectInit ∈ gt_tbl := gt_mem 51 (by decide +kernel) rfl
theorem kv_X8_init : gt_I yX8_init cX8_init 1 0 := ⟨rfl, gt_mem 128 (by decide +kernel) rfl, gt_mem 4 (by decide +kernel) rfl, gt_mem 129 (by decide +kernel) rfl, ⟨by decide +kernel, by decide +kernel, by decide +kernel⟩, by decide⟩
theorem km_X8_3 : Cond.methodLink RX8 3 Lib.objectInit ∈ gt_tbl := gt_mem 130 (by decide +kernel) rfl
theorem km_X9_38 : Cond.methodLink RX9 38 yX4_init ∈ gt_tbl := gt_mem 163 (by decide +kernel) rfl
theorem kv_X4_init : gt_I yX4_init cX4_init 2 0 := ⟨rfl, gt_mem 164 (by decide +kernel) rfl, gt_mem 5 (by decide +kernel) rfl, gt_mem 165 (by decide +kernel) rfl, ⟨by decide +kernel, by decide +kernel, by decide +kernel⟩, by decide⟩
theorem km_X4_3 : Cond.methodLink RX4 3 Lib.objectInit ∈ gt_tbl := gt_mem 166 (by decide +kernel) rfl
theorem kv_X1_init : gt_I yX1_init cX1_init 1 0 := ⟨rfl, gt_mem 186 (by decide +kernel) rfl, gt_mem 6 (by decide +kernel) rfl, gt_mem 187 (by decide +kernel) rfl, ⟨by decide +kernel, by decide +kernel, by decide +kernel⟩, by decide⟩
theorem km_X1_3 : Cond.methodLink RX1 3 Lib.objectInit ∈ gt_tbl := gt_mem 188 (by decide +kernel) rfl
theorem kv_X3_init : gt_I yX3_init cX3_init 1 0 := ⟨rfl, gt_mem 197 (by decide +kernel) rfl, gt_mem 7 (by decide +kernel) rfl, gt_mem 198 (by decide +kernel) rfl, ⟨by decide +kernel, by decide +kernel, by decide +kernel⟩, by decide⟩
theorem km_X3_3 : Cond.methodLink RX3 3 Lib.objectInit ∈ gt_tbl := gt_mem 199 (by decide +kernel) rfl
theorem kv_X5_init : gt_I yX5_init cX5_init 1 0 := ⟨rfl, gt_mem 240 (by decide +kernel) rfl, gt_mem 8 (by decide +kernel) rfl, gt_mem 241 (by decide +kernel) rfl, ⟨by decide +kernel, by decide +kernel, by decide +kernel⟩, by decide⟩
theorem km_X5_3 : Cond.methodLink RX5 3 Lib.objectInit ∈ gt_tbl := gt_mem 242 (by decide +kernel) rfl
theorem kv_X7_init : gt_I yX7_init cX7_init 1 0 := ⟨rfl, gt_mem 268 (by decide +kernel) rfl, gt_mem 9 (by decide +kernel) rfl, gt_mem 269 (by decide +kernel) rfl, ⟨by decide +kernel, by decide +kernel, by decide +kernel⟩, by decide⟩
theorem km_X7_3 : Cond.methodLink RX7 3 Lib.objectInit ∈ gt_tbl := gt_mem 270 (by decide +kernel) rfl
theorem kv_X2_init : gt_I yX2_init cX2_init 1 0 := ⟨rfl, gt_mem 278 (by decide +kernel) rfl, gt_mem 10 (by decide +kernel) rfl, gt_mem 279 (by decide +kernel) rfl, ⟨by decide +kernel, by decide +kernel, by decide +kernel⟩, by decide⟩
theorem km_X2_1 : Cond.methodLink RX2 1 Lib.objectInit ∈ gt_tbl := gt_mem 280 (by decide +kernel) rfl
theorem km_L_13 : Cond.methodLink RL 13 yX9_feed ∈ gt_tbl := gt_mem 331 (by decide +kernel) rfl
theorem kv_X9_feed : gt_V yX9_feed cX9_feed 2 (some .int) 1 := ⟨gt_mem 332 (by decide +kernel) rfl, gt_mem 333 (by decide +kernel) rfl, gt_mem 1 (by decide +kernel) rfl, gt_mem 334 (by decide +kernel) rfl, ⟨by decide +kernel, by decide +kernel, by decide +kernel⟩, by decide⟩
theorem km_X9_82 : Cond.methodLink RX9 82 yX9_within ∈ gt_tbl := gt_mem 335 (by decide +kernel) rfl
theorem kv_X9_within : gt_S yX9_within cX9_within 3 (some .boolean) 3 := ⟨gt_mem 336 (by decide +kernel) rfl, gt_mem 1 (by decide +kernel) rfl, gt_mem 337 (by decide +kernel) rfl, ⟨by decide +kernel, by decide +kernel, by decide +kernel⟩, by decide⟩
theorem kc_X9_86 : Cond.constant RX9 86 (-1000000002) ∈ gt_tbl := gt_mem 338 (by decide +kernel) rfl
theorem km_X9_87 : Cond.methodLink RX9 87 yX6_add ∈ gt_tbl := gt_mem 339 (by decide +kernel) rfl
theorem kv_X6_add : gt_V yX6_add cX6_add 2 (some .int) 1 := ⟨gt_mem 340 (by decide +kernel) rfl, gt_mem 341 (by decide +kernel) rfl, gt_mem 2 (by decide +kernel) rfl, gt_mem 342 (by decide +kernel) rfl, ⟨by decide +kernel, by decide +kernel, by decide +kernel⟩, by decide⟩
theorem kc_X6_22 : Cond.constant RX6 22 (-1000000004) ∈ gt_tbl := gt_mem 343 (by decide +kernel) rfl
theorem km_L_18 : Cond.methodLink RL 18 yX9_coast ∈ gt_tbl := gt_mem 344 (by decide +kernel) rfl
theorem kv_X9_coast : gt_V yX9_coast cX9_coast 4 (some .int) 0 := ⟨gt_mem 345 (by decide +kernel) rfl, gt_mem 346 (by decide +kernel) rfl, gt_mem 1 (by decide +kernel) rfl, gt_mem 347 (by decide +kernel) rfl, ⟨by decide +kernel, by decide +kernel, by decide +kernel⟩, by decide⟩
theorem km_X9_91 : Cond.methodLink RX9 91 yX6_readInto ∈ gt_tbl := gt_mem 348 (by decide +kernel) rfl
theorem kv_X6_readInto : gt_V yX6_readInto cX6_readInto 3 (some .int) 1 := ⟨gt_mem 349 (by decide +kernel) rfl, gt_mem 350 (by decide +kernel) rfl, gt_mem 2 (by decide +kernel) rfl, gt_mem 351 (by decide +kernel) rfl, ⟨by decide +kernel, by decide +kernel, by decide +kernel⟩, by decide⟩
theorem km_X6_29 : Cond.methodLink RX6 29 yX0_clear ∈ gt_tbl := gt_mem 352 (by decide +kernel) rfl
theorem kv_X0_clear : gt_V yX0_clear cX0_clear 1 none 0 := ⟨gt_mem 353 (by decide +kernel) rfl, gt_mem 354 (by decide +kernel) rfl, gt_mem 3 (by decide +kernel) rfl, gt_mem 355 (by decide +kernel) rfl, ⟨by decide +kernel, by decide +kernel, by decide +kernel⟩, by decide⟩
theorem km_X6_34 : Cond.methodLink RX6 34 yX6_moreComes ∈ gt_tbl := gt_mem 356 (by decide +kernel) rfl
theorem kv_X6_moreComes : gt_V yX6_moreComes cX6_moreComes 1 (some .boolean) 0 := ⟨gt_mem 358 (by decide +kernel) rfl, gt_memp (y := yX6_moreComes) (c := 5) 0 (by decide +kernel), gt_mem 2 (by decide +kernel) rfl, gt_mem 359 (by decide +kernel) rfl, ⟨by decide +kernel, by decide +kernel, by decide +kernel⟩, by decide⟩
theorem km_X6_38 : Cond.methodLink RX6 38 yX6_readCells ∈ gt_tbl := gt_mem 360 (by decide +kernel) rfl
theorem kv_X6_readCells : gt_V yX6_readCells cX6_readCells 3 none 1 := ⟨gt_mem 362 (by decide +kernel) rfl, gt_memp (y := yX6_readCells) (c := 5) 1 (by decide +kernel), gt_mem 2 (by decide +kernel) rfl, gt_mem 363 (by decide +kernel) rfl, ⟨by decide +kernel, by decide +kernel, by decide +kernel⟩, by decide⟩
theorem km_X6_45 : Cond.methodLink RX6 45 yX6_takeSign ∈ gt_tbl := gt_mem 364 (by decide +kernel) rfl
theorem kv_X6_takeSign : gt_V yX6_takeSign cX6_takeSign 2 none 1 := ⟨gt_mem 366 (by decide +kernel) rfl, gt_memp (y := yX6_takeSign) (c := 5) 2 (by decide +kernel), gt_mem 2 (by decide +kernel) rfl, gt_mem 367 (by decide +kernel) rfl, ⟨by decide +kernel, by decide +kernel, by decide +kernel⟩, by decide⟩
theorem km_X6_59 : Cond.methodLink RX6 59 yX6_nextIs ∈ gt_tbl := gt_mem 368 (by decide +kernel) rfl
theorem kv_X6_nextIs : gt_V yX6_nextIs cX6_nextIs 2 (some .boolean) 1 := ⟨gt_mem 370 (by decide +kernel) rfl, gt_memp (y := yX6_nextIs) (c := 5) 3 (by decide +kernel), gt_mem 2 (by decide +kernel) rfl, gt_mem 371 (by decide +kernel) rfl, ⟨by decide +kernel, by decide +kernel, by decide +kernel⟩, by decide⟩
theorem km_X6_63 : Cond.methodLink RX6 63 yX6_fail ∈ gt_tbl := gt_mem 372 (by decide +kernel) rfl
theorem kv_X6_fail : gt_V yX6_fail cX6_fail 3 none 2 := ⟨gt_mem 374 (by decide +kernel) rfl, gt_memp (y := yX6_fail) (c := 5) 4 (by decide +kernel), gt_mem 2 (by decide +kernel) rfl, gt_mem 375 (by decide +kernel) rfl, ⟨by decide +kernel, by decide +kernel, by decide +kernel⟩, by decide⟩
theorem km_X6_52 : Cond.methodLink RX6 52 yX6_takeNumber ∈ gt_tbl := gt_mem 376 (by decide +kernel) rfl
theorem kv_X6_takeNumber : gt_V yX6_takeNumber cX6_takeNumber 5 (some .int) 2 := ⟨gt_mem 378 (by decide +kernel) rfl, gt_memp (y := yX6_takeNumber) (c := 5) 5 (by decide +kernel), gt_mem 2 (by decide +kernel) rfl, gt_mem 379 (by decide +kernel) rfl, ⟨by decide +kernel, by decide +kernel, by decide +kernel⟩, by decide⟩
theorem km_X6_103 : Cond.methodLink RX6 103 yX6_isFigure ∈ gt_tbl := gt_mem 380 (by decide +kernel) rfl
theorem kv_X6_isFigure : gt_S yX6_isFigure cX6_isFigure 1 (some .boolean) 1 := ⟨gt_mem 381 (by decide +kernel) rfl, gt_mem 2 (by decide +kernel) rfl, gt_mem 382 (by decide +kernel) rfl, ⟨by decide +kernel, by decide +kernel, by decide +kernel⟩, by decide⟩
theorem km_X6_42 : Cond.methodLink RX6 42 yX6_readClause ∈ gt_tbl := gt_mem 383 (by decide +kernel) rfl
theorem kv_X6_readClause : gt_V yX6_readClause cX6_readClause 2 none 1 := ⟨gt_mem 385 (by decide +kernel) rfl, gt_memp (y := yX6_readClause) (c := 5) 6 (by decide +kernel), gt_mem 2 (by decide +kernel) rfl, gt_mem 386 (by decide +kernel) rfl, ⟨by decide +kernel, by decide +kernel, by decide +kernel⟩, by decide⟩
theorem km_X6_67 : Cond.methodLink RX6 67 yX6_readTower ∈ gt_tbl := gt_mem 387 (by decide +kernel) rfl
theorem kv_X6_readTower : gt_V yX6_readTower cX6_readTower 3 none 1 := ⟨gt_mem 389 (by decide +kernel) rfl, gt_memp (y := yX6_readTower) (c := 5) 7 (by decide +kernel), gt_mem 2 (by decide +kernel) rfl, gt_mem 390 (by decide +kernel) rfl, ⟨by decide +kernel, by decide +kernel, by decide +kernel⟩, by decide⟩
theorem km_X6_70 : Cond.methodLink RX6 70 yX6_readPlayer ∈ gt_tbl := gt_mem 391 (by decide +kernel) rfl
theorem kv_X6_readPlayer : gt_V yX6_readPlayer cX6_readPlayer 3 none 1 := ⟨gt_mem 393 (by decide +kernel) rfl, gt_memp (y := yX6_readPlayer) (c := 5) 8 (by decide +kernel), gt_mem 2 (by decide +kernel) rfl, gt_mem 394 (by decide +kernel) rfl, ⟨by decide +kernel, by decide +kernel, by decide +kernel⟩, by decide⟩
theorem km_X6_73 : Cond.methodLink RX6 73 yX6_readBoat ∈ gt_tbl := gt_mem 395 (by decide +kernel) rfl
theorem kv_X6_readBoat : gt_V yX6_readBoat cX6_readBoat 3 none 1 := ⟨gt_mem 397 (by decide +kernel) rfl, gt_memp (y := yX6_readBoat) (c := 5) 9 (by decide +kernel), gt_mem 2 (by decide +kernel) rfl, gt_mem 398 (by decide +kernel) rfl, ⟨by decide +kernel, by decide +kernel, by decide +kernel⟩, by decide⟩
theorem km_X9_95 : Cond.methodLink RX9 95 yX6_faultPlace ∈ gt_tbl := gt_mem 399 (by decide +kernel) rfl
theorem kv_X6_faultPlace : gt_V yX6_faultPlace cX6_faultPlace 1 (some .int) 0 := ⟨gt_mem 400 (by decide +kernel) rfl, gt_mem 401 (by decide +kernel) rfl, gt_mem 2 (by decide +kernel) rfl, gt_mem 402 (by decide +kernel) rfl, ⟨by decide +kernel, by decide +kernel, by decide +kernel⟩, by decide⟩
theorem km_X9_99 : Cond.methodLink RX9 99 yX8_begin ∈ gt_tbl := gt_mem 403 (by decide +kernel) rfl
theorem kv_X8_begin : gt_V yX8_begin cX8_begin 3 none 1 := ⟨gt_mem 404 (by decide +kernel) rfl, gt_mem 405 (by decide +kernel) rfl, gt_mem 4 (by decide +kernel) rfl, gt_mem 406 (by decide +kernel) rfl, ⟨by decide +kernel, by decide +kernel, by decide +kernel⟩, by decide⟩
theorem km_X8_31 : Cond.methodLink RX8 31 yJ7_fill_53178 ∈ gt_tbl := gt_mem 407 (by decide +kernel) rfl
theorem kv_J7_fill_53178 : gt_S yJ7_fill_53178 cJ7_fill_53178 4 none 2 := ⟨gt_mem 408 (by decide +kernel) rfl, gt_mem 12 (by decide +kernel) rfl, gt_mem 409 (by decide +kernel) rfl, ⟨by decide +kernel, by decide +kernel, by decide +kernel⟩, by decide⟩
theorem km_X9_103 : Cond.methodLink RX9 103 yX4_forget ∈ gt_tbl := gt_mem 410 (by decide +kernel) rfl
theorem kv_X4_forget : gt_V yX4_forget cX4_forget 1 none 0 := ⟨gt_mem 411 (by decide +kernel) rfl, gt_mem 412 (by decide +kernel) rfl, gt_mem 5 (by decide +kernel) rfl, gt_mem 413 (by decide +kernel) rfl, ⟨by decide +kernel, by decide +kernel, by decide +kernel⟩, by decide⟩
theorem km_X9_106 : Cond.methodLink RX9 106 yX3_clear ∈ gt_tbl := gt_mem 414 (by decide +kernel) rfl
theorem kv_X3_clear : gt_V yX3_clear cX3_clear 1 none 0 := ⟨gt_mem 415 (by decide +kernel) rfl, gt_mem 416 (by decide +kernel) rfl, gt_mem 7 (by decide +kernel) rfl, gt_mem 417 (by decide +kernel) rfl, ⟨by decide +kernel, by decide +kernel, by decide +kernel⟩, by decide⟩
theorem km_L_23 : Cond.methodLink RL 23 yX9_fault ∈ gt_tbl := gt_mem 418 (by decide +kernel) rfl
theorem kv_X9_fault : gt_V yX9_fault cX9_fault 1 (some .int) 0 := ⟨gt_mem 419 (by decide +kernel) rfl, gt_mem 420 (by decide +kernel) rfl, gt_mem 1 (by decide +kernel) rfl, gt_mem 421 (by decide +kernel) rfl, ⟨by decide +kernel, by decide +kernel, by decide +kernel⟩, by decide⟩
theorem km_L_27 : Cond.methodLink RL 27 yX9_told ∈ gt_tbl := gt_mem 422 (by decide +kernel) rfl
theorem kv_X9_told : gt_V yX9_told cX9_told 2 (some .int) 1 := ⟨gt_mem 423 (by decide +kernel) rfl, gt_mem 424 (by decide +kernel) rfl, gt_mem 1 (by decide +kernel) rfl, gt_mem 425 (by decide +kernel) rfl, ⟨by decide +kernel, by decide +kernel, by decide +kernel⟩, by decide⟩
theorem km_X9_125 : Cond.methodLink RX9 125 yX6_letters ∈ gt_tbl := gt_mem 426 (by decide +kernel) rfl
theorem kv_X6_letters : gt_V yX6_letters cX6_letters 1 (some .int) 0 := ⟨gt_mem 427 (by decide +kernel) rfl, gt_mem 428 (by decide +kernel) rfl, gt_mem 2 (by decide +kernel) rfl, gt_mem 429 (by decide +kernel) rfl, ⟨by decide +kernel, by decide +kernel, by decide +kernel⟩, by decide⟩
theorem km_X9_131 : Cond.methodLink RX9 131 yX8_slope ∈ gt_tbl := gt_mem 430 (by decide +kernel) rfl
theorem kv_X8_slope : gt_V yX8_slope cX8_slope 3 (some .int) 1 := ⟨gt_mem 431 (by decide +kernel) rfl, gt_mem 432 (by decide +kernel) rfl, gt_mem 4 (by decide +kernel) rfl, gt_mem 433 (by decide +kernel) rfl, ⟨by decide +kernel, by decide +kernel, by decide +kernel⟩, by decide⟩
theorem km_X8_113 : Cond.methodLink RX8 113 yX8_steepest ∈ gt_tbl := gt_mem 434 (by decide +kernel) rfl
theorem kv_X8_steepest : gt_V yX8_steepest cX8_steepest 6 (some .int) 1 := ⟨gt_mem 435 (by decide +kernel) rfl, gt_mem 436 (by decide +kernel) rfl, gt_mem 4 (by decide +kernel) rfl, gt_mem 437 (by decide +kernel) rfl, ⟨by decide +kernel, by decide +kernel, by decide +kernel⟩, by decide⟩
theorem km_X8_110 : Cond.methodLink RX8 110 yX8_unlikeness ∈ gt_tbl := gt_mem 438 (by decide +kernel) rfl
theorem kv_X8_unlikeness : gt_V yX8_unlikeness cX8_unlikeness 3 (some .int) 2 := ⟨gt_mem 440 (by decide +kernel) rfl, gt_memp (y := yX8_unlikeness) (c := 6) 10 (by decide +kernel), gt_mem 4 (by decide +kernel) rfl, gt_mem 441 (by decide +kernel) rfl, ⟨by decide +kernel, by decide +kernel, by decide +kernel⟩, by decide⟩
theorem km_X8_101 : Cond.methodLink RX8 101 yX8_seaAt ∈ gt_tbl := gt_mem 442 (by decide +kernel) rfl
theorem kv_X8_seaAt : gt_V yX8_seaAt cX8_seaAt 5 (some .int) 2 := ⟨gt_mem 443 (by decide +kernel) rfl, gt_mem 444 (by decide +kernel) rfl, gt_mem 4 (by decide +kernel) rfl, gt_mem 445 (by decide +kernel) rfl, ⟨by decide +kernel, by decide +kernel, by decide +kernel⟩, by decide⟩
theorem km_X8_98 : Cond.methodLink RX8 98 yX0_bears ∈ gt_tbl := gt_mem 446 (by decide +kernel) rfl
theorem kv_X0_bears : gt_V yX0_bears cX0_bears 4 (some .int) 3 := ⟨gt_mem 447 (by decide +kernel) rfl, gt_mem 448 (by decide +kernel) rfl, gt_mem 3 (by decide +kernel) rfl, gt_mem 449 (by decide +kernel) rfl, ⟨by decide +kernel, by decide +kernel, by decide +kernel⟩, by decide⟩
theorem km_X0_46 : Cond.methodLink RX0 46 Lib.Math.abs.name ∈ gt_tbl := gt_mem 450 (by decide +kernel) rfl
theorem km_X0_52 : Cond.methodLink RX0 52 Lib.Math.max.name ∈ gt_tbl := gt_mem 453 (by decide +kernel) rfl
theorem km_X8_117 : Cond.methodLink RX8 117 Lib.Math.abs.name ∈ gt_tbl := gt_mem 456 (by decide +kernel) rfl
theorem km_X9_134 : Cond.methodLink RX9 134 yX8_steepest ∈ gt_tbl := gt_mem 457 (by decide +kernel) rfl
theorem km_X9_137 : Cond.methodLink RX9 137 yX8_wet ∈ gt_tbl := gt_mem 458 (by decide +kernel) rfl
theorem kv_X8_wet : gt_V yX8_wet cX8_wet 4 (some .int) 1 := ⟨gt_mem 459 (by decide +kernel) rfl, gt_mem 460 (by decide +kernel) rfl, gt_mem 4 (by decide +kernel) rfl, gt_mem 461 (by decide +kernel) rfl, ⟨by decide +kernel, by decide +kernel, by decide +kernel⟩, by decide⟩
theorem km_X8_91 : Cond.methodLink RX8 91 yX8_depthAt ∈ gt_tbl := gt_mem 462 (by decide +kernel) rfl
theorem kv_X8_depthAt : gt_V yX8_depthAt cX8_depthAt 3 (some .int) 2 := ⟨gt_mem 463 (by decide +kernel) rfl, gt_mem 464 (by decide +kernel) rfl, gt_mem 4 (by decide +kernel) rfl, gt_mem 465 (by decide +kernel) rfl, ⟨by decide +kernel, by decide +kernel, by decide +kernel⟩, by decide⟩
theorem km_X8_82 : Cond.methodLink RX8 82 Lib.Math.max.name ∈ gt_tbl := gt_mem 466 (by decide +kernel) rfl
theorem km_X9_140 : Cond.methodLink RX9 140 yX8_aground ∈ gt_tbl := gt_mem 467 (by decide +kernel) rfl
theorem kv_X8_aground : gt_V yX8_aground cX8_aground 4 (some .int) 1 := ⟨gt_mem 468 (by decide +kernel) rfl, gt_mem 469 (by decide +kernel) rfl, gt_mem 4 (by decide +kernel) rfl, gt_mem 470 (by decide +kernel) rfl, ⟨by decide +kernel, by decide +kernel, by decide +kernel⟩, by decide⟩
theorem km_X9_143 : Cond.methodLink RX9 143 yX8_arrived ∈ gt_tbl := gt_mem 471 (by decide +kernel) rfl
theorem kv_X8_arrived : gt_V yX8_arrived cX8_arrived 4 (some .int) 1 := ⟨gt_mem 472 (by decide +kernel) rfl, gt_mem 473 (by decide +kernel) rfl, gt_mem 4 (by decide +kernel) rfl, gt_mem 474 (by decide +kernel) rfl, ⟨by decide +kernel, by decide +kernel, by decide +kernel⟩, by decide⟩
theorem km_X9_146 : Cond.methodLink RX9 146 yX8_sitting ∈ gt_tbl := gt_mem 475 (by decide +kernel) rfl
theorem kv_X8_sitting : gt_V yX8_sitting cX8_sitting 4 (some .int) 1 := ⟨gt_mem 476 (by decide +kernel) rfl, gt_mem 477 (by decide +kernel) rfl, gt_mem 4 (by decide +kernel) rfl, gt_mem 478 (by decide +kernel) rfl, ⟨by decide +kernel, by decide +kernel, by decide +kernel⟩, by decide⟩
theorem km_X9_155 : Cond.methodLink RX9 155 yX7_fitting ∈ gt_tbl := gt_mem 479 (by decide +kernel) rfl
theorem kv_X7_fitting : gt_V yX7_fitting cX7_fitting 7 (some .int) 4 := ⟨gt_mem 480 (by decide +kernel) rfl, gt_mem 481 (by decide +kernel) rfl, gt_mem 9 (by decide +kernel) rfl, gt_mem 482 (by decide +kernel) rfl, ⟨by decide +kernel, by decide +kernel, by decide +kernel⟩, by decide⟩
theorem km_X7_28 : Cond.methodLink RX7 28 yX7_fits ∈ gt_tbl := gt_mem 483 (by decide +kernel) rfl
theorem kv_X7_fits : gt_V yX7_fits cX7_fits 8 (some .boolean) 5 := ⟨gt_mem 485 (by decide +kernel) rfl, gt_memp (y := yX7_fits) (c := 1) 11 (by decide +kernel), gt_mem 9 (by decide +kernel) rfl, gt_mem 486 (by decide +kernel) rfl, ⟨by decide +kernel, by decide +kernel, by decide +kernel⟩, by decide⟩
theorem km_X7_32 : Cond.methodLink RX7 32 yX7_beginAsleep ∈ gt_tbl := gt_mem 487 (by decide +kernel) rfl
theorem kv_X7_beginAsleep : gt_V yX7_beginAsleep cX7_beginAsleep 4 none 3 := ⟨gt_mem 489 (by decide +kernel) rfl, gt_memp (y := yX7_beginAsleep) (c := 1) 12 (by decide +kernel), gt_mem 9 (by decide +kernel) rfl, gt_mem 490 (by decide +kernel) rfl, ⟨by decide +kernel, by decide +kernel, by decide +kernel⟩, by decide⟩
theorem km_X7_50 : Cond.methodLink RX7 50 yX8_copy ∈ gt_tbl := gt_mem 491 (by decide +kernel) rfl
theorem kv_X8_copy : gt_V yX8_copy cX8_copy 2 none 1 := ⟨gt_mem 492 (by decide +kernel) rfl, gt_mem 493 (by decide +kernel) rfl, gt_mem 4 (by decide +kernel) rfl, gt_mem 494 (by decide +kernel) rfl, ⟨by decide +kernel, by decide +kernel, by decide +kernel⟩, by decide⟩
theorem km_X8_45 : Cond.methodLink RX8 45 arraycopyName ∈ gt_tbl := gt_mem 495 (by decide +kernel) rfl
theorem km_X7_36 : Cond.methodLink RX7 36 yX3_lastMark ∈ gt_tbl := gt_mem 498 (by decide +kernel) rfl
theorem kv_X3_lastMark : gt_V yX3_lastMark cX3_lastMark 3 (some .int) 0 := ⟨gt_mem 499 (by decide +kernel) rfl, gt_mem 500 (by decide +kernel) rfl, gt_mem 7 (by decide +kernel) rfl, gt_mem 501 (by decide +kernel) rfl, ⟨by decide +kernel, by decide +kernel, by decide +kernel⟩, by decide⟩
theorem km_X3_47 : Cond.methodLink RX3 47 Lib.Math.max.name ∈ gt_tbl := gt_mem 502 (by decide +kernel) rfl
theorem km_X7_42 : Cond.methodLink RX7 42 yX8_wind ∈ gt_tbl := gt_mem 503 (by decide +kernel) rfl
theorem kv_X8_wind : gt_V yX8_wind cX8_wind 5 none 1 := ⟨gt_mem 504 (by decide +kernel) rfl, gt_mem 505 (by decide +kernel) rfl, gt_mem 4 (by decide +kernel) rfl, gt_mem 506 (by decide +kernel) rfl, ⟨by decide +kernel, by decide +kernel, by decide +kernel⟩, by decide⟩
theorem km_X8_62 : Cond.methodLink RX8 62 yX0_hasTower ∈ gt_tbl := gt_mem 507 (by decide +kernel) rfl
theorem kv_X0_hasTower : gt_V yX0_hasTower cX0_hasTower 2 (some .boolean) 1 := ⟨gt_mem 508 (by decide +kernel) rfl, gt_mem 509 (by decide +kernel) rfl, gt_mem 3 (by decide +kernel) rfl, gt_mem 510 (by decide +kernel) rfl, ⟨by decide +kernel, by decide +kernel, by decide +kernel⟩, by decide⟩
theorem km_X8_66 : Cond.methodLink RX8 66 yX8_sleeps ∈ gt_tbl := gt_mem 511 (by decide +kernel) rfl
theorem kv_X8_sleeps : gt_V yX8_sleeps cX8_sleeps 2 (some .boolean) 1 := ⟨gt_mem 512 (by decide +kernel) rfl, gt_mem 513 (by decide +kernel) rfl, gt_mem 4 (by decide +kernel) rfl, gt_mem 514 (by decide +kernel) rfl, ⟨by decide +kernel, by decide +kernel, by decide +kernel⟩, by decide⟩
theorem km_X8_72 : Cond.methodLink RX8 72 yX8_woundMore ∈ gt_tbl := gt_mem 515 (by decide +kernel) rfl
theorem kv_X8_woundMore : gt_S yX8_woundMore cX8_woundMore 3 (some .int) 3 := ⟨gt_mem 516 (by decide +kernel) rfl, gt_mem 4 (by decide +kernel) rfl, gt_mem 517 (by decide +kernel) rfl, ⟨by decide +kernel, by decide +kernel, by decide +kernel⟩, by decide⟩
theorem km_X8_76 : Cond.methodLink RX8 76 Lib.Math.min.name ∈ gt_tbl := gt_mem 518 (by decide +kernel) rfl
theorem km_X7_46 : Cond.methodLink RX7 46 yX3_marksAreSo ∈ gt_tbl := gt_mem 521 (by decide +kernel) rfl
theorem kv_X3_marksAreSo : gt_V yX3_marksAreSo cX3_marksAreSo 5 (some .boolean) 3 := ⟨gt_mem 522 (by decide +kernel) rfl, gt_mem 523 (by decide +kernel) rfl, gt_mem 7 (by decide +kernel) rfl, gt_mem 524 (by decide +kernel) rfl, ⟨by decide +kernel, by decide +kernel, by decide +kernel⟩, by decide⟩
theorem km_X3_53 : Cond.methodLink RX3 53 yX8_seaAt ∈ gt_tbl := gt_mem 525 (by decide +kernel) rfl
theorem km_X9_162 : Cond.methodLink RX9 162 yX3_guts ∈ gt_tbl := gt_mem 526 (by decide +kernel) rfl
theorem kv_X3_guts : gt_V yX3_guts cX3_guts 3 (some .int) 0 := ⟨gt_mem 527 (by decide +kernel) rfl, gt_mem 528 (by decide +kernel) rfl, gt_mem 7 (by decide +kernel) rfl, gt_mem 529 (by decide +kernel) rfl, ⟨by decide +kernel, by decide +kernel, by decide +kernel⟩, by decide⟩
theorem km_X3_59 : Cond.methodLink RX3 59 yX3_seenIsSo ∈ gt_tbl := gt_mem 530 (by decide +kernel) rfl
theorem kv_X3_seenIsSo : gt_V yX3_seenIsSo cX3_seenIsSo 3 (some .boolean) 1 := ⟨gt_mem 532 (by decide +kernel) rfl, gt_memp (y := yX3_seenIsSo) (c := 11) 13 (by decide +kernel), gt_mem 7 (by decide +kernel) rfl, gt_mem 533 (by decide +kernel) rfl, ⟨by decide +kernel, by decide +kernel, by decide +kernel⟩, by decide⟩
theorem km_L_31 : Cond.methodLink RL 31 yX9_cell ∈ gt_tbl := gt_mem 534 (by decide +kernel) rfl
theorem kv_X9_cell : gt_V yX9_cell cX9_cell 3 (some .int) 2 := ⟨gt_mem 535 (by decide +kernel) rfl, gt_mem 536 (by decide +kernel) rfl, gt_mem 1 (by decide +kernel) rfl, gt_mem 537 (by decide +kernel) rfl, ⟨by decide +kernel, by decide +kernel, by decide +kernel⟩, by decide⟩
theorem km_X9_171 : Cond.methodLink RX9 171 yX0_hasCell ∈ gt_tbl := gt_mem 538 (by decide +kernel) rfl
theorem kv_X0_hasCell : gt_V yX0_hasCell cX0_hasCell 2 (some .boolean) 1 := ⟨gt_mem 539 (by decide +kernel) rfl, gt_mem 540 (by decide +kernel) rfl, gt_mem 3 (by decide +kernel) rfl, gt_mem 541 (by decide +kernel) rfl, ⟨by decide +kernel, by decide +kernel, by decide +kernel⟩, by decide⟩
theorem kc_X9_175 : Cond.constant RX9 175 (-1000000001) ∈ gt_tbl := gt_mem 542 (by decide +kernel) rfl
theorem km_X9_180 : Cond.methodLink RX9 180 yX8_seaAt ∈ gt_tbl := gt_mem 543 (by decide +kernel) rfl
theorem km_X9_184 : Cond.methodLink RX9 184 yX8_depthAt ∈ gt_tbl := gt_mem 544 (by decide +kernel) rfl
theorem km_X9_187 : Cond.methodLink RX9 187 yX8_strongest ∈ gt_tbl := gt_mem 545 (by decide +kernel) rfl
theorem kv_X8_strongest : gt_V yX8_strongest cX8_strongest 7 (some .int) 2 := ⟨gt_mem 546 (by decide +kernel) rfl, gt_mem 547 (by decide +kernel) rfl, gt_mem 4 (by decide +kernel) rfl, gt_mem 548 (by decide +kernel) rfl, ⟨by decide +kernel, by decide +kernel, by decide +kernel⟩, by decide⟩
theorem km_L_36 : Cond.methodLink RL 36 yX9_tower ∈ gt_tbl := gt_mem 549 (by decide +kernel) rfl
theorem kv_X9_tower : gt_V yX9_tower cX9_tower 3 (some .int) 2 := ⟨gt_mem 550 (by decide +kernel) rfl, gt_mem 551 (by decide +kernel) rfl, gt_mem 1 (by decide +kernel) rfl, gt_mem 552 (by decide +kernel) rfl, ⟨by decide +kernel, by decide +kernel, by decide +kernel⟩, by decide⟩
theorem km_X9_190 : Cond.methodLink RX9 190 yX0_hasTower ∈ gt_tbl := gt_mem 553 (by decide +kernel) rfl
theorem km_X9_202 : Cond.methodLink RX9 202 yX8_sitterAt ∈ gt_tbl := gt_mem 554 (by decide +kernel) rfl
theorem kv_X8_sitterAt : gt_V yX8_sitterAt cX8_sitterAt 4 (some .int) 2 := ⟨gt_mem 555 (by decide +kernel) rfl, gt_mem 556 (by decide +kernel) rfl, gt_mem 4 (by decide +kernel) rfl, gt_mem 557 (by decide +kernel) rfl, ⟨by decide +kernel, by decide +kernel, by decide +kernel⟩, by decide⟩
theorem km_L_40 : Cond.methodLink RL 40 yX9_player ∈ gt_tbl := gt_mem 558 (by decide +kernel) rfl
theorem kv_X9_player : gt_V yX9_player cX9_player 3 (some .int) 2 := ⟨gt_mem 559 (by decide +kernel) rfl, gt_mem 560 (by decide +kernel) rfl, gt_mem 1 (by decide +kernel) rfl, gt_mem 561 (by decide +kernel) rfl, ⟨by decide +kernel, by decide +kernel, by decide +kernel⟩, by decide⟩
theorem km_X9_205 : Cond.methodLink RX9 205 yX0_hasPlayer ∈ gt_tbl := gt_mem 562 (by decide +kernel) rfl
theorem kv_X0_hasPlayer : gt_V yX0_hasPlayer cX0_hasPlayer 2 (some .boolean) 1 := ⟨gt_mem 563 (by decide +kernel) rfl, gt_mem 564 (by decide +kernel) rfl, gt_mem 3 (by decide +kernel) rfl, gt_mem 565 (by decide +kernel) rfl, ⟨by decide +kernel, by decide +kernel, by decide +kernel⟩, by decide⟩
theorem km_X9_217 : Cond.methodLink RX9 217 yX8_sleeps ∈ gt_tbl := gt_mem 566 (by decide +kernel) rfl
theorem km_L_44 : Cond.methodLink RL 44 yX9_boat ∈ gt_tbl := gt_mem 567 (by decide +kernel) rfl
theorem kv_X9_boat : gt_V yX9_boat cX9_boat 3 (some .int) 2 := ⟨gt_mem 568 (by decide +kernel) rfl, gt_mem 569 (by decide +kernel) rfl, gt_mem 1 (by decide +kernel) rfl, gt_mem 570 (by decide +kernel) rfl, ⟨by decide +kernel, by decide +kernel, by decide +kernel⟩, by decide⟩
theorem km_X9_220 : Cond.methodLink RX9 220 yX0_hasBoat ∈ gt_tbl := gt_mem 571 (by decide +kernel) rfl
theorem kv_X0_hasBoat : gt_V yX0_hasBoat cX0_hasBoat 2 (some .boolean) 1 := ⟨gt_mem 572 (by decide +kernel) rfl, gt_mem 573 (by decide +kernel) rfl, gt_mem 3 (by decide +kernel) rfl, gt_mem 574 (by decide +kernel) rfl, ⟨by decide +kernel, by decide +kernel, by decide +kernel⟩, by decide⟩
theorem km_L_48 : Cond.methodLink RL 48 yX9_hour ∈ gt_tbl := gt_mem 575 (by decide +kernel) rfl
theorem kv_X9_hour : gt_V yX9_hour cX9_hour 4 (some .int) 1 := ⟨gt_mem 576 (by decide +kernel) rfl, gt_mem 577 (by decide +kernel) rfl, gt_mem 1 (by decide +kernel) rfl, gt_mem 578 (by decide +kernel) rfl, ⟨by decide +kernel, by decide +kernel, by decide +kernel⟩, by decide⟩
theorem km_X9_235 : Cond.methodLink RX9 235 yX9_refusalOfHours ∈ gt_tbl := gt_mem 579 (by decide +kernel) rfl
theorem kv_X9_refusalOfHours : gt_V yX9_refusalOfHours cX9_refusalOfHours 2 (some .int) 1 := ⟨gt_mem 581 (by decide +kernel) rfl, gt_memp (y := yX9_refusalOfHours) (c := 12) 14 (by decide +kernel), gt_mem 1 (by decide +kernel) rfl, gt_mem 582 (by decide +kernel) rfl, ⟨by decide +kernel, by decide +kernel, by decide +kernel⟩, by decide⟩
theorem kc_X9_245 : Cond.constant RX9 245 (-1000000003) ∈ gt_tbl := gt_mem 583 (by decide +kernel) rfl
theorem kc_X9_311 : Cond.constant RX9 311 (-1000000004) ∈ gt_tbl := gt_mem 584 (by decide +kernel) rfl
theorem km_X9_238 : Cond.methodLink RX9 238 yX4_remember ∈ gt_tbl := gt_mem 585 (by decide +kernel) rfl
theorem kv_X4_remember : gt_V yX4_remember cX4_remember 2 none 1 := ⟨gt_mem 586 (by decide +kernel) rfl, gt_mem 587 (by decide +kernel) rfl, gt_mem 5 (by decide +kernel) rfl, gt_mem 588 (by decide +kernel) rfl, ⟨by decide +kernel, by decide +kernel, by decide +kernel⟩, by decide⟩
theorem km_X4_22 : Cond.methodLink RX4 22 yX8_copy ∈ gt_tbl := gt_mem 589 (by decide +kernel) rfl
theorem km_X4_29 : Cond.methodLink RX4 29 Lib.Math.min.name ∈ gt_tbl := gt_mem 590 (by decide +kernel) rfl
theorem km_X9_242 : Cond.methodLink RX9 242 yX8_passHour ∈ gt_tbl := gt_mem 591 (by decide +kernel) rfl
theorem kv_X8_passHour : gt_V yX8_passHour cX8_passHour 3 none 1 := ⟨gt_mem 592 (by decide +kernel) rfl, gt_mem 593 (by decide +kernel) rfl, gt_mem 4 (by decide +kernel) rfl, gt_mem 594 (by decide +kernel) rfl, ⟨by decide +kernel, by decide +kernel, by decide +kernel⟩, by decide⟩
theorem km_X8_54 : Cond.methodLink RX8 54 yX8_wind ∈ gt_tbl := gt_mem 595 (by decide +kernel) rfl
theorem km_X8_58 : Cond.methodLink RX8 58 yX8_sail ∈ gt_tbl := gt_mem 596 (by decide +kernel) rfl
theorem kv_X8_sail : gt_V yX8_sail cX8_sail 5 none 2 := ⟨gt_mem 597 (by decide +kernel) rfl, gt_mem 598 (by decide +kernel) rfl, gt_mem 4 (by decide +kernel) rfl, gt_mem 599 (by decide +kernel) rfl, ⟨by decide +kernel, by decide +kernel, by decide +kernel⟩, by decide⟩
theorem km_L_52 : Cond.methodLink RL 52 yX9_sit ∈ gt_tbl := gt_mem 600 (by decide +kernel) rfl
theorem kv_X9_sit : gt_V yX9_sit cX9_sit 4 (some .int) 2 := ⟨gt_mem 601 (by decide +kernel) rfl, gt_mem 602 (by decide +kernel) rfl, gt_mem 1 (by decide +kernel) rfl, gt_mem 603 (by decide +kernel) rfl, ⟨by decide +kernel, by decide +kernel, by decide +kernel⟩, by decide⟩
theorem km_L_56 : Cond.methodLink RL 56 yX9_rest ∈ gt_tbl := gt_mem 604 (by decide +kernel) rfl
theorem kv_X9_rest : gt_V yX9_rest cX9_rest 3 (some .int) 1 := ⟨gt_mem 605 (by decide +kernel) rfl, gt_mem 606 (by decide +kernel) rfl, gt_mem 1 (by decide +kernel) rfl, gt_mem 607 (by decide +kernel) rfl, ⟨by decide +kernel, by decide +kernel, by decide +kernel⟩, by decide⟩
theorem km_L_60 : Cond.methodLink RL 60 yX9_sleep ∈ gt_tbl := gt_mem 608 (by decide +kernel) rfl
theorem kv_X9_sleep : gt_V yX9_sleep cX9_sleep 4 (some .int) 2 := ⟨gt_mem 609 (by decide +kernel) rfl, gt_mem 610 (by decide +kernel) rfl, gt_mem 1 (by decide +kernel) rfl, gt_mem 611 (by decide +kernel) rfl, ⟨by decide +kernel, by decide +kernel, by decide +kernel⟩, by decide⟩
theorem km_X9_246 : Cond.methodLink RX9 246 yX8_setAsleep ∈ gt_tbl := gt_mem 612 (by decide +kernel) rfl
theorem kv_X8_setAsleep : gt_V yX8_setAsleep cX8_setAsleep 3 none 2 := ⟨gt_mem 613 (by decide +kernel) rfl, gt_mem 614 (by decide +kernel) rfl, gt_mem 4 (by decide +kernel) rfl, gt_mem 615 (by decide +kernel) rfl, ⟨by decide +kernel, by decide +kernel, by decide +kernel⟩, by decide⟩
theorem km_L_65 : Cond.methodLink RL 65 yX9_turn ∈ gt_tbl := gt_mem 616 (by decide +kernel) rfl
theorem kv_X9_turn : gt_V yX9_turn cX9_turn 4 (some .int) 2 := ⟨gt_mem 617 (by decide +kernel) rfl, gt_mem 618 (by decide +kernel) rfl, gt_mem 1 (by decide +kernel) rfl, gt_mem 619 (by decide +kernel) rfl, ⟨by decide +kernel, by decide +kernel, by decide +kernel⟩, by decide⟩
theorem km_L_69 : Cond.methodLink RL 69 yX9_send ∈ gt_tbl := gt_mem 620 (by decide +kernel) rfl
theorem kv_X9_send : gt_V yX9_send cX9_send 3 (some .int) 1 := ⟨gt_mem 621 (by decide +kernel) rfl, gt_mem 622 (by decide +kernel) rfl, gt_mem 1 (by decide +kernel) rfl, gt_mem 623 (by decide +kernel) rfl, ⟨by decide +kernel, by decide +kernel, by decide +kernel⟩, by decide⟩
theorem km_L_73 : Cond.methodLink RL 73 yX9_drift ∈ gt_tbl := gt_mem 624 (by decide +kernel) rfl
theorem kv_X9_drift : gt_V yX9_drift cX9_drift 4 (some .int) 1 := ⟨gt_mem 625 (by decide +kernel) rfl, gt_mem 626 (by decide +kernel) rfl, gt_mem 1 (by decide +kernel) rfl, gt_mem 627 (by decide +kernel) rfl, ⟨by decide +kernel, by decide +kernel, by decide +kernel⟩, by decide⟩
theorem km_X9_250 : Cond.methodLink RX9 250 yX1_stir ∈ gt_tbl := gt_mem 628 (by decide +kernel) rfl
theorem kv_X1_stir : gt_V yX1_stir cX1_stir 4 none 2 := ⟨gt_mem 629 (by decide +kernel) rfl, gt_mem 630 (by decide +kernel) rfl, gt_mem 6 (by decide +kernel) rfl, gt_mem 631 (by decide +kernel) rfl, ⟨by decide +kernel, by decide +kernel, by decide +kernel⟩, by decide⟩
theorem km_X1_27 : Cond.methodLink RX1 27 yX1_next ∈ gt_tbl := gt_mem 632 (by decide +kernel) rfl
theorem kv_X1_next : gt_V yX1_next cX1_next 2 (some .int) 1 := ⟨gt_mem 634 (by decide +kernel) rfl, gt_memp (y := yX1_next) (c := 1) 15 (by decide +kernel), gt_mem 6 (by decide +kernel) rfl, gt_mem 635 (by decide +kernel) rfl, ⟨by decide +kernel, by decide +kernel, by decide +kernel⟩, by decide⟩
theorem kc_X1_15 : Cond.constantLong RX1 15 1103515245 ∈ gt_tbl := gt_mem 636 (by decide +kernel) rfl
theorem kc_X1_17 : Cond.constantLong RX1 17 12345 ∈ gt_tbl := gt_mem 637 (by decide +kernel) rfl
theorem kc_X1_19 : Cond.constantLong RX1 19 2147483647 ∈ gt_tbl := gt_mem 638 (by decide +kernel) rfl
theorem kc_X1_21 : Cond.constant RX1 21 65536 ∈ gt_tbl := gt_mem 639 (by decide +kernel) rfl
theorem km_X1_31 : Cond.methodLink RX1 31 yX8_setAsleep ∈ gt_tbl := gt_mem 640 (by decide +kernel) rfl
theorem km_X1_41 : Cond.methodLink RX1 41 yX1_sitByDraw ∈ gt_tbl := gt_mem 641 (by decide +kernel) rfl
theorem kv_X1_sitByDraw : gt_V yX1_sitByDraw cX1_sitByDraw 5 none 3 := ⟨gt_mem 643 (by decide +kernel) rfl, gt_memp (y := yX1_sitByDraw) (c := 1) 16 (by decide +kernel), gt_mem 6 (by decide +kernel) rfl, gt_mem 644 (by decide +kernel) rfl, ⟨by decide +kernel, by decide +kernel, by decide +kernel⟩, by decide⟩
theorem km_X1_48 : Cond.methodLink RX1 48 yX8_sitterAt ∈ gt_tbl := gt_mem 645 (by decide +kernel) rfl
theorem km_L_77 : Cond.methodLink RL 77 yX9_undo ∈ gt_tbl := gt_mem 646 (by decide +kernel) rfl
theorem kv_X9_undo : gt_V yX9_undo cX9_undo 1 (some .int) 0 := ⟨gt_mem 647 (by decide +kernel) rfl, gt_mem 648 (by decide +kernel) rfl, gt_mem 1 (by decide +kernel) rfl, gt_mem 649 (by decide +kernel) rfl, ⟨by decide +kernel, by decide +kernel, by decide +kernel⟩, by decide⟩
theorem km_X9_254 : Cond.methodLink RX9 254 yX4_recall ∈ gt_tbl := gt_mem 650 (by decide +kernel) rfl
theorem kv_X4_recall : gt_V yX4_recall cX4_recall 2 none 1 := ⟨gt_mem 651 (by decide +kernel) rfl, gt_mem 652 (by decide +kernel) rfl, gt_mem 5 (by decide +kernel) rfl, gt_mem 653 (by decide +kernel) rfl, ⟨by decide +kernel, by decide +kernel, by decide +kernel⟩, by decide⟩
theorem km_L_81 : Cond.methodLink RL 81 yX9_sea ∈ gt_tbl := gt_mem 654 (by decide +kernel) rfl
theorem kv_X9_sea : gt_V yX9_sea cX9_sea 5 (some .int) 3 := ⟨gt_mem 655 (by decide +kernel) rfl, gt_mem 656 (by decide +kernel) rfl, gt_mem 1 (by decide +kernel) rfl, gt_mem 657 (by decide +kernel) rfl, ⟨by decide +kernel, by decide +kernel, by decide +kernel⟩, by decide⟩
theorem km_X9_257 : Cond.methodLink RX9 257 yX8_copy ∈ gt_tbl := gt_mem 658 (by decide +kernel) rfl
theorem km_X9_260 : Cond.methodLink RX9 260 yX8_wind ∈ gt_tbl := gt_mem 659 (by decide +kernel) rfl
theorem km_L_86 : Cond.methodLink RL 86 yX9_deepest ∈ gt_tbl := gt_mem 660 (by decide +kernel) rfl
theorem kv_X9_deepest : gt_V yX9_deepest cX9_deepest 8 (some .int) 3 := ⟨gt_mem 661 (by decide +kernel) rfl, gt_mem 662 (by decide +kernel) rfl, gt_mem 1 (by decide +kernel) rfl, gt_mem 663 (by decide +kernel) rfl, ⟨by decide +kernel, by decide +kernel, by decide +kernel⟩, by decide⟩
theorem km_L_90 : Cond.methodLink RL 90 yX9_comes ∈ gt_tbl := gt_mem 664 (by decide +kernel) rfl
theorem kv_X9_comes : gt_V yX9_comes cX9_comes 3 (some .int) 1 := ⟨gt_mem 665 (by decide +kernel) rfl, gt_mem 666 (by decide +kernel) rfl, gt_mem 1 (by decide +kernel) rfl, gt_mem 667 (by decide +kernel) rfl, ⟨by decide +kernel, by decide +kernel, by decide +kernel⟩, by decide⟩
theorem km_X9_263 : Cond.methodLink RX9 263 yX8_sail ∈ gt_tbl := gt_mem 668 (by decide +kernel) rfl
theorem km_L_94 : Cond.methodLink RL 94 yX9_seats ∈ gt_tbl := gt_mem 669 (by decide +kernel) rfl
theorem kv_X9_seats : gt_V yX9_seats cX9_seats 6 (some .int) 4 := ⟨gt_mem 670 (by decide +kernel) rfl, gt_mem 671 (by decide +kernel) rfl, gt_mem 1 (by decide +kernel) rfl, gt_mem 672 (by decide +kernel) rfl, ⟨by decide +kernel, by decide +kernel, by decide +kernel⟩, by decide⟩
theorem km_X9_267 : Cond.methodLink RX9 267 yX5_search ∈ gt_tbl := gt_mem 673 (by decide +kernel) rfl
theorem kv_X5_search : gt_V yX5_search cX5_search 8 (some .int) 5 := ⟨gt_mem 674 (by decide +kernel) rfl, gt_mem 675 (by decide +kernel) rfl, gt_mem 8 (by decide +kernel) rfl, gt_mem 676 (by decide +kernel) rfl, ⟨by decide +kernel, by decide +kernel, by decide +kernel⟩, by decide⟩
theorem km_X5_31 : Cond.methodLink RX5 31 yX5_seaIfAllRest ∈ gt_tbl := gt_mem 677 (by decide +kernel) rfl
theorem kv_X5_seaIfAllRest : gt_V yX5_seaIfAllRest cX5_seaIfAllRest 7 (some .int) 4 := ⟨gt_mem 679 (by decide +kernel) rfl, gt_memp (y := yX5_seaIfAllRest) (c := 6) 17 (by decide +kernel), gt_mem 8 (by decide +kernel) rfl, gt_mem 680 (by decide +kernel) rfl, ⟨by decide +kernel, by decide +kernel, by decide +kernel⟩, by decide⟩
theorem km_X5_67 : Cond.methodLink RX5 67 yX5_letDown ∈ gt_tbl := gt_mem 681 (by decide +kernel) rfl
theorem kv_X5_letDown : gt_S yX5_letDown cX5_letDown 2 (some .int) 2 := ⟨gt_mem 682 (by decide +kernel) rfl, gt_mem 8 (by decide +kernel) rfl, gt_mem 683 (by decide +kernel) rfl, ⟨by decide +kernel, by decide +kernel, by decide +kernel⟩, by decide⟩
theorem km_X5_74 : Cond.methodLink RX5 74 Lib.Math.max.name ∈ gt_tbl := gt_mem 684 (by decide +kernel) rfl
theorem km_X5_70 : Cond.methodLink RX5 70 yX0_bears ∈ gt_tbl := gt_mem 685 (by decide +kernel) rfl
theorem km_X5_39 : Cond.methodLink RX5 39 yX5_noteGains ∈ gt_tbl := gt_mem 686 (by decide +kernel) rfl
theorem kv_X5_noteGains : gt_V yX5_noteGains cX5_noteGains 9 none 4 := ⟨gt_mem 688 (by decide +kernel) rfl, gt_memp (y := yX5_noteGains) (c := 6) 18 (by decide +kernel), gt_mem 8 (by decide +kernel) rfl, gt_mem 689 (by decide +kernel) rfl, ⟨by decide +kernel, by decide +kernel, by decide +kernel⟩, by decide⟩
theorem km_X5_77 : Cond.methodLink RX5 77 yJ7_fill_53178 ∈ gt_tbl := gt_mem 690 (by decide +kernel) rfl
theorem km_X5_83 : Cond.methodLink RX5 83 yX5_woundBy ∈ gt_tbl := gt_mem 691 (by decide +kernel) rfl
theorem kv_X5_woundBy : gt_S yX5_woundBy cX5_woundBy 7 (some .int) 5 := ⟨gt_mem 692 (by decide +kernel) rfl, gt_mem 8 (by decide +kernel) rfl, gt_mem 693 (by decide +kernel) rfl, ⟨by decide +kernel, by decide +kernel, by decide +kernel⟩, by decide⟩
theorem km_X5_91 : Cond.methodLink RX5 91 yX8_sleeps ∈ gt_tbl := gt_mem 694 (by decide +kernel) rfl
theorem km_X5_52 : Cond.methodLink RX5 52 Lib.Math.min.name ∈ gt_tbl := gt_mem 695 (by decide +kernel) rfl
theorem km_X5_101 : Cond.methodLink RX5 101 yX8_woundMore ∈ gt_tbl := gt_mem 696 (by decide +kernel) rfl
theorem km_X5_87 : Cond.methodLink RX5 87 yX5_noteMostGain ∈ gt_tbl := gt_mem 697 (by decide +kernel) rfl
theorem kv_X5_noteMostGain : gt_V yX5_noteMostGain cX5_noteMostGain 4 none 2 := ⟨gt_mem 699 (by decide +kernel) rfl, gt_memp (y := yX5_noteMostGain) (c := 6) 19 (by decide +kernel), gt_mem 8 (by decide +kernel) rfl, gt_mem 700 (by decide +kernel) rfl, ⟨by decide +kernel, by decide +kernel, by decide +kernel⟩, by decide⟩
theorem km_X5_58 : Cond.methodLink RX5 58 yX5_seatFrom ∈ gt_tbl := gt_mem 701 (by decide +kernel) rfl
theorem kv_X5_seatFrom : gt_S yX5_seatFrom cX5_seatFrom 8 none 7 := ⟨gt_mem 702 (by decide +kernel) rfl, gt_mem 8 (by decide +kernel) rfl, gt_mem 703 (by decide +kernel) rfl, ⟨by decide +kernel, by decide +kernel, by decide +kernel⟩, by decide⟩
theorem km_X5_104 : Cond.methodLink RX5 104 yX5_take ∈ gt_tbl := gt_mem 704 (by decide +kernel) rfl
theorem kv_X5_take : gt_V yX5_take cX5_take 3 none 2 := ⟨gt_mem 706 (by decide +kernel) rfl, gt_memp (y := yX5_take) (c := 6) 20 (by decide +kernel), gt_mem 8 (by decide +kernel) rfl, gt_mem 707 (by decide +kernel) rfl, ⟨by decide +kernel, by decide +kernel, by decide +kernel⟩, by decide⟩
theorem km_X5_107 : Cond.methodLink RX5 107 arraycopyName ∈ gt_tbl := gt_mem 708 (by decide +kernel) rfl
theorem km_L_99 : Cond.methodLink RL 99 yX9_leave ∈ gt_tbl := gt_mem 709 (by decide +kernel) rfl
theorem kv_X9_leave : gt_V yX9_leave cX9_leave 6 (some .int) 1 := ⟨gt_mem 710 (by decide +kernel) rfl, gt_mem 711 (by decide +kernel) rfl, gt_mem 1 (by decide +kernel) rfl, gt_mem 712 (by decide +kernel) rfl, ⟨by decide +kernel, by decide +kernel, by decide +kernel⟩, by decide⟩
theorem km_L_103 : Cond.methodLink RL 103 yX9_share ∈ gt_tbl := gt_mem 713 (by decide +kernel) rfl
theorem kv_X9_share : gt_V yX9_share cX9_share 6 (some .int) 2 := ⟨gt_mem 714 (by decide +kernel) rfl, gt_mem 715 (by decide +kernel) rfl, gt_mem 1 (by decide +kernel) rfl, gt_mem 716 (by decide +kernel) rfl, ⟨by decide +kernel, by decide +kernel, by decide +kernel⟩, by decide⟩
theorem km_X9_274 : Cond.methodLink RX9 274 yX8_dryGround ∈ gt_tbl := gt_mem 717 (by decide +kernel) rfl
theorem kv_X8_dryGround : gt_V yX8_dryGround cX8_dryGround 4 (some .int) 1 := ⟨gt_mem 718 (by decide +kernel) rfl, gt_mem 719 (by decide +kernel) rfl, gt_mem 4 (by decide +kernel) rfl, gt_mem 720 (by decide +kernel) rfl, ⟨by decide +kernel, by decide +kernel, by decide +kernel⟩, by decide⟩
theorem km_X9_277 : Cond.methodLink RX9 277 yX9_shareOf ∈ gt_tbl := gt_mem 721 (by decide +kernel) rfl
theorem kv_X9_shareOf : gt_V yX9_shareOf cX9_shareOf 4 (some .int) 3 := ⟨gt_mem 723 (by decide +kernel) rfl, gt_memp (y := yX9_shareOf) (c := 12) 21 (by decide +kernel), gt_mem 1 (by decide +kernel) rfl, gt_mem 724 (by decide +kernel) rfl, ⟨by decide +kernel, by decide +kernel, by decide +kernel⟩, by decide⟩
theorem km_L_107 : Cond.methodLink RL 107 yX9_calm ∈ gt_tbl := gt_mem 725 (by decide +kernel) rfl
theorem kv_X9_calm : gt_V yX9_calm cX9_calm 6 (some .int) 2 := ⟨gt_mem 726 (by decide +kernel) rfl, gt_mem 727 (by decide +kernel) rfl, gt_mem 1 (by decide +kernel) rfl, gt_mem 728 (by decide +kernel) rfl, ⟨by decide +kernel, by decide +kernel, by decide +kernel⟩, by decide⟩
theorem kc_X9_281 : Cond.constantLong RX9 281 1000000000 ∈ gt_tbl := gt_mem 729 (by decide +kernel) rfl
theorem kc_X9_283 : Cond.constantLong RX9 283 100 ∈ gt_tbl := gt_mem 730 (by decide +kernel) rfl
theorem km_L_111 : Cond.methodLink RL 111 yX9_mark ∈ gt_tbl := gt_mem 731 (by decide +kernel) rfl
theorem kv_X9_mark : gt_V yX9_mark cX9_mark 4 (some .int) 3 := ⟨gt_mem 732 (by decide +kernel) rfl, gt_mem 733 (by decide +kernel) rfl, gt_mem 1 (by decide +kernel) rfl, gt_mem 734 (by decide +kernel) rfl, ⟨by decide +kernel, by decide +kernel, by decide +kernel⟩, by decide⟩
theorem km_X9_285 : Cond.methodLink RX9 285 yX3_addMark ∈ gt_tbl := gt_mem 735 (by decide +kernel) rfl
theorem kv_X3_addMark : gt_V yX3_addMark cX3_addMark 4 (some .int) 3 := ⟨gt_mem 736 (by decide +kernel) rfl, gt_mem 737 (by decide +kernel) rfl, gt_mem 7 (by decide +kernel) rfl, gt_mem 738 (by decide +kernel) rfl, ⟨by decide +kernel, by decide +kernel, by decide +kernel⟩, by decide⟩
theorem kc_X3_46 : Cond.constant RX3 46 (-1000000004) ∈ gt_tbl := gt_mem 739 (by decide +kernel) rfl
theorem km_L_115 : Cond.methodLink RL 115 yX9_look ∈ gt_tbl := gt_mem 740 (by decide +kernel) rfl
theorem kv_X9_look : gt_V yX9_look cX9_look 2 (some .int) 0 := ⟨gt_mem 741 (by decide +kernel) rfl, gt_mem 742 (by decide +kernel) rfl, gt_mem 1 (by decide +kernel) rfl, gt_mem 743 (by decide +kernel) rfl, ⟨by decide +kernel, by decide +kernel, by decide +kernel⟩, by decide⟩
theorem km_X9_288 : Cond.methodLink RX9 288 yX7_bestMark ∈ gt_tbl := gt_mem 744 (by decide +kernel) rfl
theorem kv_X7_bestMark : gt_V yX7_bestMark cX7_bestMark 10 (some .int) 4 := ⟨gt_mem 745 (by decide +kernel) rfl, gt_mem 746 (by decide +kernel) rfl, gt_mem 9 (by decide +kernel) rfl, gt_mem 747 (by decide +kernel) rfl, ⟨by decide +kernel, by decide +kernel, by decide +kernel⟩, by decide⟩
theorem km_X7_57 : Cond.methodLink RX7 57 yX7_noteSeas ∈ gt_tbl := gt_mem 748 (by decide +kernel) rfl
theorem kv_X7_noteSeas : gt_V yX7_noteSeas cX7_noteSeas 6 none 3 := ⟨gt_mem 750 (by decide +kernel) rfl, gt_memp (y := yX7_noteSeas) (c := 1) 22 (by decide +kernel), gt_mem 9 (by decide +kernel) rfl, gt_mem 751 (by decide +kernel) rfl, ⟨by decide +kernel, by decide +kernel, by decide +kernel⟩, by decide⟩
theorem km_X7_68 : Cond.methodLink RX7 68 yX8_seaAt ∈ gt_tbl := gt_mem 752 (by decide +kernel) rfl
theorem km_X7_64 : Cond.methodLink RX7 64 yX7_mostAlike ∈ gt_tbl := gt_mem 753 (by decide +kernel) rfl
theorem kv_X7_mostAlike : gt_V yX7_mostAlike cX7_mostAlike 7 (some .int) 2 := ⟨gt_mem 755 (by decide +kernel) rfl, gt_memp (y := yX7_mostAlike) (c := 1) 23 (by decide +kernel), gt_mem 9 (by decide +kernel) rfl, gt_mem 756 (by decide +kernel) rfl, ⟨by decide +kernel, by decide +kernel, by decide +kernel⟩, by decide⟩
theorem km_X7_72 : Cond.methodLink RX7 72 Lib.Math.max.name ∈ gt_tbl := gt_mem 757 (by decide +kernel) rfl
theorem km_L_119 : Cond.methodLink RL 119 yX9_see ∈ gt_tbl := gt_mem 758 (by decide +kernel) rfl
theorem kv_X9_see : gt_V yX9_see cX9_see 4 (some .int) 3 := ⟨gt_mem 759 (by decide +kernel) rfl, gt_mem 760 (by decide +kernel) rfl, gt_mem 1 (by decide +kernel) rfl, gt_mem 761 (by decide +kernel) rfl, ⟨by decide +kernel, by decide +kernel, by decide +kernel⟩, by decide⟩
theorem km_X9_292 : Cond.methodLink RX9 292 yX3_addSeen ∈ gt_tbl := gt_mem 762 (by decide +kernel) rfl
theorem kv_X3_addSeen : gt_V yX3_addSeen cX3_addSeen 4 (some .int) 3 := ⟨gt_mem 763 (by decide +kernel) rfl, gt_mem 764 (by decide +kernel) rfl, gt_mem 7 (by decide +kernel) rfl, gt_mem 765 (by decide +kernel) rfl, ⟨by decide +kernel, by decide +kernel, by decide +kernel⟩, by decide⟩
theorem km_L_123 : Cond.methodLink RL 123 yX9_write ∈ gt_tbl := gt_mem 766 (by decide +kernel) rfl
theorem kv_X9_write : gt_V yX9_write cX9_write 3 (some .int) 2 := ⟨gt_mem 767 (by decide +kernel) rfl, gt_mem 768 (by decide +kernel) rfl, gt_mem 1 (by decide +kernel) rfl, gt_mem 769 (by decide +kernel) rfl, ⟨by decide +kernel, by decide +kernel, by decide +kernel⟩, by decide⟩
theorem km_X9_295 : Cond.methodLink RX9 295 yX3_addEntry ∈ gt_tbl := gt_mem 770 (by decide +kernel) rfl
theorem kv_X3_addEntry : gt_V yX3_addEntry cX3_addEntry 3 (some .int) 2 := ⟨gt_mem 771 (by decide +kernel) rfl, gt_mem 772 (by decide +kernel) rfl, gt_mem 7 (by decide +kernel) rfl, gt_mem 773 (by decide +kernel) rfl, ⟨by decide +kernel, by decide +kernel, by decide +kernel⟩, by decide⟩
theorem km_L_127 : Cond.methodLink RL 127 yX9_tear ∈ gt_tbl := gt_mem 774 (by decide +kernel) rfl
theorem kv_X9_tear : gt_V yX9_tear cX9_tear 2 (some .int) 0 := ⟨gt_mem 775 (by decide +kernel) rfl, gt_mem 776 (by decide +kernel) rfl, gt_mem 1 (by decide +kernel) rfl, gt_mem 777 (by decide +kernel) rfl, ⟨by decide +kernel, by decide +kernel, by decide +kernel⟩, by decide⟩
theorem km_L_131 : Cond.methodLink RL 131 yX9_judge ∈ gt_tbl := gt_mem 778 (by decide +kernel) rfl
theorem kv_X9_judge : gt_V yX9_judge cX9_judge 1 (some .int) 0 := ⟨gt_mem 779 (by decide +kernel) rfl, gt_mem 780 (by decide +kernel) rfl, gt_mem 1 (by decide +kernel) rfl, gt_mem 781 (by decide +kernel) rfl, ⟨by decide +kernel, by decide +kernel, by decide +kernel⟩, by decide⟩
theorem km_X9_299 : Cond.methodLink RX9 299 yX3_firstWrong ∈ gt_tbl := gt_mem 782 (by decide +kernel) rfl
theorem kv_X3_firstWrong : gt_V yX3_firstWrong cX3_firstWrong 4 (some .int) 2 := ⟨gt_mem 783 (by decide +kernel) rfl, gt_mem 784 (by decide +kernel) rfl, gt_mem 7 (by decide +kernel) rfl, gt_mem 785 (by decide +kernel) rfl, ⟨by decide +kernel, by decide +kernel, by decide +kernel⟩, by decide⟩
theorem km_L_135 : Cond.methodLink RL 135 yX9_seed ∈ gt_tbl := gt_mem 786 (by decide +kernel) rfl
theorem kv_X9_seed : gt_V yX9_seed cX9_seed 3 (some .int) 1 := ⟨gt_mem 787 (by decide +kernel) rfl, gt_mem 788 (by decide +kernel) rfl, gt_mem 1 (by decide +kernel) rfl, gt_mem 789 (by decide +kernel) rfl, ⟨by decide +kernel, by decide +kernel, by decide +kernel⟩, by decide⟩
theorem kc_X9_303 : Cond.constant RX9 303 2147483647 ∈ gt_tbl := gt_mem 790 (by decide +kernel) rfl
theorem km_L_139 : Cond.methodLink RL 139 yX9_keep ∈ gt_tbl := gt_mem 791 (by decide +kernel) rfl
theorem kv_X9_keep : gt_V yX9_keep cX9_keep 2 (some .int) 1 := ⟨gt_mem 792 (by decide +kernel) rfl, gt_mem 793 (by decide +kernel) rfl, gt_mem 1 (by decide +kernel) rfl, gt_mem 794 (by decide +kernel) rfl, ⟨by decide +kernel, by decide +kernel, by decide +kernel⟩, by decide⟩
theorem km_L_143 : Cond.methodLink RL 143 yX9_goBack ∈ gt_tbl := gt_mem 795 (by decide +kernel) rfl
theorem kv_X9_goBack : gt_V yX9_goBack cX9_goBack 2 (some .int) 1 := ⟨gt_mem 796 (by decide +kernel) rfl, gt_mem 797 (by decide +kernel) rfl, gt_mem 1 (by decide +kernel) rfl, gt_mem 798 (by decide +kernel) rfl, ⟨by decide +kernel, by decide +kernel, by decide +kernel⟩, by decide⟩
theorem km_L_12 : Cond.methodLink RL 12 yX10_init ∈ gt_tbl := gt_mem 801 (by decide +kernel) rfl
theorem kv_X10_init : gt_I yX10_init cX10_init 1 0 := ⟨rfl, gt_mem 802 (by decide +kernel) rfl, gt_mem 11 (by decide +kernel) rfl, gt_mem 803 (by decide +kernel) rfl, ⟨by decide +kernel, by decide +kernel, by decide +kernel⟩, by decide⟩
theorem km_X10_1 : Cond.methodLink RX10 1 Lib.objectInit ∈ gt_tbl := gt_mem 804 (by decide +kernel) rfl
theorem km_X10_57 : Cond.methodLink RX10 57 yX10_begins ∈ gt_tbl := gt_mem 805 (by decide +kernel) rfl
theorem kv_X10_begins : gt_V yX10_begins cX10_begins 2 none 0 := ⟨gt_mem 807 (by decide +kernel) rfl, gt_memp (y := yX10_begins) (c := 29) 24 (by decide +kernel), gt_mem 11 (by decide +kernel) rfl, gt_mem 808 (by decide +kernel) rfl, ⟨by decide +kernel, by decide +kernel, by decide +kernel⟩, by decide⟩
theorem kc_X10_60 : Cond.constantLong RX10 60 12 ∈ gt_tbl := gt_mem 809 (by decide +kernel) rfl
theorem kc_X10_62 : Cond.constantLong RX10 62 17 ∈ gt_tbl := gt_mem 810 (by decide +kernel) rfl
theorem km_X10_64 : Cond.methodLink RX10 64 yX10_in ∈ gt_tbl := gt_mem 811 (by decide +kernel) rfl
theorem kv_X10_in : gt_S yX10_in cX10_in 6 (some .boolean) 3 := ⟨gt_mem 812 (by decide +kernel) rfl, gt_mem 11 (by decide +kernel) rfl, gt_mem 813 (by decide +kernel) rfl, ⟨by decide +kernel, by decide +kernel, by decide +kernel⟩, by decide⟩
theorem km_X10_68 : Cond.methodLink RX10 68 yX10_copies ∈ gt_tbl := gt_mem 814 (by decide +kernel) rfl
theorem kv_X10_copies : gt_S yX10_copies cX10_copies 6 none 5 := ⟨gt_mem 815 (by decide +kernel) rfl, gt_mem 11 (by decide +kernel) rfl, gt_mem 816 (by decide +kernel) rfl, ⟨by decide +kernel, by decide +kernel, by decide +kernel⟩, by decide⟩
theorem km_L_17 : Cond.methodLink RL 17 yX10_feed ∈ gt_tbl := gt_mem 906 (by decide +kernel) rfl
theorem kv_X10_feed : gt_V yX10_feed cX10_feed 2 (some .int) 1 := ⟨gt_mem 907 (by decide +kernel) rfl, gt_mem 908 (by decide +kernel) rfl, gt_mem 11 (by decide +kernel) rfl, gt_mem 909 (by decide +kernel) rfl, ⟨by decide +kernel, by decide +kernel, by decide +kernel⟩, by decide⟩
theorem kc_X10_84 : Cond.constantLong RX10 84 255 ∈ gt_tbl := gt_mem 910 (by decide +kernel) rfl
theorem kc_X10_86 : Cond.constant RX10 86 (-1000000002) ∈ gt_tbl := gt_mem 911 (by decide +kernel) rfl
theorem kc_X10_90 : Cond.constant RX10 90 (-1000000004) ∈ gt_tbl := gt_mem 912 (by decide +kernel) rfl
theorem km_L_22 : Cond.methodLink RL 22 yX10_coast ∈ gt_tbl := gt_mem 913 (by decide +kernel) rfl
theorem kv_X10_coast : gt_V yX10_coast cX10_coast 2 (some .int) 0 := ⟨gt_mem 914 (by decide +kernel) rfl, gt_mem 915 (by decide +kernel) rfl, gt_mem 11 (by decide +kernel) rfl, gt_mem 916 (by decide +kernel) rfl, ⟨by decide +kernel, by decide +kernel, by decide +kernel⟩, by decide⟩
theorem km_X10_117 : Cond.methodLink RX10 117 yX10_step ∈ gt_tbl := gt_mem 917 (by decide +kernel) rfl
theorem kv_X10_step : gt_V yX10_step cX10_step 1 none 0 := ⟨gt_mem 919 (by decide +kernel) rfl, gt_memp (y := yX10_step) (c := 29) 25 (by decide +kernel), gt_mem 11 (by decide +kernel) rfl, gt_mem 920 (by decide +kernel) rfl, ⟨by decide +kernel, by decide +kernel, by decide +kernel⟩, by decide⟩
theorem km_X10_94 : Cond.methodLink RX10 94 yX10_here ∈ gt_tbl := gt_mem 921 (by decide +kernel) rfl
theorem kv_X10_here : gt_V yX10_here cX10_here 1 (some .int) 0 := ⟨gt_mem 923 (by decide +kernel) rfl, gt_memp (y := yX10_here) (c := 29) 26 (by decide +kernel), gt_mem 11 (by decide +kernel) rfl, gt_mem 924 (by decide +kernel) rfl, ⟨by decide +kernel, by decide +kernel, by decide +kernel⟩, by decide⟩
theorem kc_X10_110 : Cond.constantLong RX10 110 48 ∈ gt_tbl := gt_mem 925 (by decide +kernel) rfl
theorem kc_X10_112 : Cond.constantLong RX10 112 57 ∈ gt_tbl := gt_mem 926 (by decide +kernel) rfl
theorem km_X10_144 : Cond.methodLink RX10 144 yX10_readsClause ∈ gt_tbl := gt_mem 927 (by decide +kernel) rfl
theorem kv_X10_readsClause : gt_V yX10_readsClause cX10_readsClause 1 (some .boolean) 0 := ⟨gt_mem 929 (by decide +kernel) rfl, gt_memp (y := yX10_readsClause) (c := 29) 27 (by decide +kernel), gt_mem 11 (by decide +kernel) rfl, gt_mem 930 (by decide +kernel) rfl, ⟨by decide +kernel, by decide +kernel, by decide +kernel⟩, by decide⟩
theorem km_X10_132 : Cond.methodLink RX10 132 yX10_readsCells ∈ gt_tbl := gt_mem 931 (by decide +kernel) rfl
theorem kv_X10_readsCells : gt_V yX10_readsCells cX10_readsCells 2 (some .boolean) 0 := ⟨gt_mem 933 (by decide +kernel) rfl, gt_memp (y := yX10_readsCells) (c := 29) 28 (by decide +kernel), gt_mem 11 (by decide +kernel) rfl, gt_mem 934 (by decide +kernel) rfl, ⟨by decide +kernel, by decide +kernel, by decide +kernel⟩, by decide⟩
theorem km_X10_120 : Cond.methodLink RX10 120 yX10_fails ∈ gt_tbl := gt_mem 935 (by decide +kernel) rfl
theorem kv_X10_fails : gt_V yX10_fails cX10_fails 2 (some .boolean) 1 := ⟨gt_mem 937 (by decide +kernel) rfl, gt_memp (y := yX10_fails) (c := 29) 29 (by decide +kernel), gt_mem 11 (by decide +kernel) rfl, gt_mem 938 (by decide +kernel) rfl, ⟨by decide +kernel, by decide +kernel, by decide +kernel⟩, by decide⟩
theorem km_X10_124 : Cond.methodLink RX10 124 yX10_number ∈ gt_tbl := gt_mem 939 (by decide +kernel) rfl
theorem kv_X10_number : gt_V yX10_number cX10_number 4 (some .boolean) 3 := ⟨gt_mem 941 (by decide +kernel) rfl, gt_memp (y := yX10_number) (c := 29) 30 (by decide +kernel), gt_mem 11 (by decide +kernel) rfl, gt_mem 942 (by decide +kernel) rfl, ⟨by decide +kernel, by decide +kernel, by decide +kernel⟩, by decide⟩
theorem km_X10_135 : Cond.methodLink RX10 135 yX10_readsTower ∈ gt_tbl := gt_mem 943 (by decide +kernel) rfl
theorem kv_X10_readsTower : gt_V yX10_readsTower cX10_readsTower 2 (some .boolean) 0 := ⟨gt_mem 945 (by decide +kernel) rfl, gt_memp (y := yX10_readsTower) (c := 29) 31 (by decide +kernel), gt_mem 11 (by decide +kernel) rfl, gt_mem 946 (by decide +kernel) rfl, ⟨by decide +kernel, by decide +kernel, by decide +kernel⟩, by decide⟩
theorem km_X10_128 : Cond.methodLink RX10 128 yX10_ends ∈ gt_tbl := gt_mem 947 (by decide +kernel) rfl
theorem kv_X10_ends : gt_V yX10_ends cX10_ends 1 (some .boolean) 0 := ⟨gt_mem 949 (by decide +kernel) rfl, gt_memp (y := yX10_ends) (c := 29) 32 (by decide +kernel), gt_mem 11 (by decide +kernel) rfl, gt_mem 950 (by decide +kernel) rfl, ⟨by decide +kernel, by decide +kernel, by decide +kernel⟩, by decide⟩
theorem km_X10_138 : Cond.methodLink RX10 138 yX10_readsPlayer ∈ gt_tbl := gt_mem 951 (by decide +kernel) rfl
theorem kv_X10_readsPlayer : gt_V yX10_readsPlayer cX10_readsPlayer 2 (some .boolean) 0 := ⟨gt_mem 953 (by decide +kernel) rfl, gt_memp (y := yX10_readsPlayer) (c := 29) 33 (by decide +kernel), gt_mem 11 (by decide +kernel) rfl, gt_mem 954 (by decide +kernel) rfl, ⟨by decide +kernel, by decide +kernel, by decide +kernel⟩, by decide⟩
theorem km_X10_141 : Cond.methodLink RX10 141 yX10_readsBoat ∈ gt_tbl := gt_mem 955 (by decide +kernel) rfl
theorem kv_X10_readsBoat : gt_V yX10_readsBoat cX10_readsBoat 2 (some .boolean) 0 := ⟨gt_mem 957 (by decide +kernel) rfl, gt_memp (y := yX10_readsBoat) (c := 29) 34 (by decide +kernel), gt_mem 11 (by decide +kernel) rfl, gt_mem 958 (by decide +kernel) rfl, ⟨by decide +kernel, by decide +kernel, by decide +kernel⟩, by decide⟩
theorem km_L_26 : Cond.methodLink RL 26 yX10_fault ∈ gt_tbl := gt_mem 959 (by decide +kernel) rfl
theorem kv_X10_fault : gt_V yX10_fault cX10_fault 1 (some .int) 0 := ⟨gt_mem 960 (by decide +kernel) rfl, gt_mem 961 (by decide +kernel) rfl, gt_mem 11 (by decide +kernel) rfl, gt_mem 962 (by decide +kernel) rfl, ⟨by decide +kernel, by decide +kernel, by decide +kernel⟩, by decide⟩
theorem km_L_30 : Cond.methodLink RL 30 yX10_told ∈ gt_tbl := gt_mem 963 (by decide +kernel) rfl
theorem kv_X10_told : gt_V yX10_told cX10_told 2 (some .int) 1 := ⟨gt_mem 964 (by decide +kernel) rfl, gt_mem 965 (by decide +kernel) rfl, gt_mem 11 (by decide +kernel) rfl, gt_mem 966 (by decide +kernel) rfl, ⟨by decide +kernel, by decide +kernel, by decide +kernel⟩, by decide⟩
theorem km_X10_169 : Cond.methodLink RX10 169 yX10_slopeOn ∈ gt_tbl := gt_mem 967 (by decide +kernel) rfl
theorem kv_X10_slopeOn : gt_V yX10_slopeOn cX10_slopeOn 3 (some .int) 1 := ⟨gt_mem 969 (by decide +kernel) rfl, gt_memp (y := yX10_slopeOn) (c := 29) 35 (by decide +kernel), gt_mem 11 (by decide +kernel) rfl, gt_mem 970 (by decide +kernel) rfl, ⟨by decide +kernel, by decide +kernel, by decide +kernel⟩, by decide⟩
theorem km_X10_162 : Cond.methodLink RX10 162 yX10_steepest ∈ gt_tbl := gt_mem 971 (by decide +kernel) rfl
theorem kv_X10_steepest : gt_V yX10_steepest cX10_steepest 4 (some .int) 1 := ⟨gt_mem 973 (by decide +kernel) rfl, gt_memp (y := yX10_steepest) (c := 29) 36 (by decide +kernel), gt_mem 11 (by decide +kernel) rfl, gt_mem 974 (by decide +kernel) rfl, ⟨by decide +kernel, by decide +kernel, by decide +kernel⟩, by decide⟩
theorem km_X10_159 : Cond.methodLink RX10 159 yX10_unlike ∈ gt_tbl := gt_mem 975 (by decide +kernel) rfl
theorem kv_X10_unlike : gt_V yX10_unlike cX10_unlike 4 (some .int) 2 := ⟨gt_mem 977 (by decide +kernel) rfl, gt_memp (y := yX10_unlike) (c := 29) 37 (by decide +kernel), gt_mem 11 (by decide +kernel) rfl, gt_mem 978 (by decide +kernel) rfl, ⟨by decide +kernel, by decide +kernel, by decide +kernel⟩, by decide⟩
theorem km_X10_155 : Cond.methodLink RX10 155 yX10_seaOn ∈ gt_tbl := gt_mem 979 (by decide +kernel) rfl
theorem kv_X10_seaOn : gt_V yX10_seaOn cX10_seaOn 5 (some .int) 2 := ⟨gt_mem 981 (by decide +kernel) rfl, gt_memp (y := yX10_seaOn) (c := 29) 38 (by decide +kernel), gt_mem 11 (by decide +kernel) rfl, gt_mem 982 (by decide +kernel) rfl, ⟨by decide +kernel, by decide +kernel, by decide +kernel⟩, by decide⟩
theorem km_X10_151 : Cond.methodLink RX10 151 yX10_bears ∈ gt_tbl := gt_mem 983 (by decide +kernel) rfl
theorem kv_X10_bears : gt_V yX10_bears cX10_bears 5 (some .int) 3 := ⟨gt_mem 985 (by decide +kernel) rfl, gt_memp (y := yX10_bears) (c := 29) 39 (by decide +kernel), gt_mem 11 (by decide +kernel) rfl, gt_mem 986 (by decide +kernel) rfl, ⟨by decide +kernel, by decide +kernel, by decide +kernel⟩, by decide⟩
theorem km_X10_147 : Cond.methodLink RX10 147 yX10_greater ∈ gt_tbl := gt_mem 987 (by decide +kernel) rfl
theorem kv_X10_greater : gt_S yX10_greater cX10_greater 2 (some .int) 2 := ⟨gt_mem 988 (by decide +kernel) rfl, gt_mem 11 (by decide +kernel) rfl, gt_mem 989 (by decide +kernel) rfl, ⟨by decide +kernel, by decide +kernel, by decide +kernel⟩, by decide⟩
theorem km_X10_172 : Cond.methodLink RX10 172 yX10_wet ∈ gt_tbl := gt_mem 990 (by decide +kernel) rfl
theorem kv_X10_wet : gt_V yX10_wet cX10_wet 3 (some .int) 0 := ⟨gt_mem 992 (by decide +kernel) rfl, gt_memp (y := yX10_wet) (c := 29) 40 (by decide +kernel), gt_mem 11 (by decide +kernel) rfl, gt_mem 993 (by decide +kernel) rfl, ⟨by decide +kernel, by decide +kernel, by decide +kernel⟩, by decide⟩
theorem km_X10_166 : Cond.methodLink RX10 166 yX10_depthOn ∈ gt_tbl := gt_mem 994 (by decide +kernel) rfl
theorem kv_X10_depthOn : gt_V yX10_depthOn cX10_depthOn 3 (some .int) 2 := ⟨gt_mem 996 (by decide +kernel) rfl, gt_memp (y := yX10_depthOn) (c := 29) 41 (by decide +kernel), gt_mem 11 (by decide +kernel) rfl, gt_mem 997 (by decide +kernel) rfl, ⟨by decide +kernel, by decide +kernel, by decide +kernel⟩, by decide⟩
theorem km_X10_175 : Cond.methodLink RX10 175 yX10_boats ∈ gt_tbl := gt_mem 998 (by decide +kernel) rfl
theorem kv_X10_boats : gt_V yX10_boats cX10_boats 5 (some .int) 1 := ⟨gt_mem 1000 (by decide +kernel) rfl, gt_memp (y := yX10_boats) (c := 29) 42 (by decide +kernel), gt_mem 11 (by decide +kernel) rfl, gt_mem 1001 (by decide +kernel) rfl, ⟨by decide +kernel, by decide +kernel, by decide +kernel⟩, by decide⟩
theorem km_X10_179 : Cond.methodLink RX10 179 yX10_whoSits ∈ gt_tbl := gt_mem 1002 (by decide +kernel) rfl
theorem kv_X10_whoSits : gt_V yX10_whoSits cX10_whoSits 3 (some .int) 0 := ⟨gt_mem 1004 (by decide +kernel) rfl, gt_memp (y := yX10_whoSits) (c := 29) 43 (by decide +kernel), gt_mem 11 (by decide +kernel) rfl, gt_mem 1005 (by decide +kernel) rfl, ⟨by decide +kernel, by decide +kernel, by decide +kernel⟩, by decide⟩
theorem km_X10_182 : Cond.methodLink RX10 182 yX10_slept ∈ gt_tbl := gt_mem 1006 (by decide +kernel) rfl
theorem kv_X10_slept : gt_V yX10_slept cX10_slept 5 (some .int) 0 := ⟨gt_mem 1008 (by decide +kernel) rfl, gt_memp (y := yX10_slept) (c := 29) 44 (by decide +kernel), gt_mem 11 (by decide +kernel) rfl, gt_mem 1009 (by decide +kernel) rfl, ⟨by decide +kernel, by decide +kernel, by decide +kernel⟩, by decide⟩
theorem km_X10_289 : Cond.methodLink RX10 289 yX10_layThen ∈ gt_tbl := gt_mem 1010 (by decide +kernel) rfl
theorem kv_X10_layThen : gt_V yX10_layThen cX10_layThen 4 none 1 := ⟨gt_mem 1012 (by decide +kernel) rfl, gt_memp (y := yX10_layThen) (c := 29) 45 (by decide +kernel), gt_mem 11 (by decide +kernel) rfl, gt_mem 1013 (by decide +kernel) rfl, ⟨by decide +kernel, by decide +kernel, by decide +kernel⟩, by decide⟩
theorem km_X10_257 : Cond.methodLink RX10 257 yX10_layAside ∈ gt_tbl := gt_mem 1014 (by decide +kernel) rfl
theorem kv_X10_layAside : gt_V yX10_layAside cX10_layAside 1 none 0 := ⟨gt_mem 1016 (by decide +kernel) rfl, gt_memp (y := yX10_layAside) (c := 29) 46 (by decide +kernel), gt_mem 11 (by decide +kernel) rfl, gt_mem 1017 (by decide +kernel) rfl, ⟨by decide +kernel, by decide +kernel, by decide +kernel⟩, by decide⟩
theorem km_X10_215 : Cond.methodLink RX10 215 yX10_winds ∈ gt_tbl := gt_mem 1018 (by decide +kernel) rfl
theorem kv_X10_winds : gt_V yX10_winds cX10_winds 5 none 1 := ⟨gt_mem 1020 (by decide +kernel) rfl, gt_memp (y := yX10_winds) (c := 29) 47 (by decide +kernel), gt_mem 11 (by decide +kernel) rfl, gt_mem 1021 (by decide +kernel) rfl, ⟨by decide +kernel, by decide +kernel, by decide +kernel⟩, by decide⟩
theorem km_X10_208 : Cond.methodLink RX10 208 yX10_has ∈ gt_tbl := gt_mem 1022 (by decide +kernel) rfl
theorem kv_X10_has : gt_S yX10_has cX10_has 2 (some .boolean) 2 := ⟨gt_mem 1023 (by decide +kernel) rfl, gt_mem 11 (by decide +kernel) rfl, gt_mem 1024 (by decide +kernel) rfl, ⟨by decide +kernel, by decide +kernel, by decide +kernel⟩, by decide⟩
theorem km_X10_212 : Cond.methodLink RX10 212 yX10_lesser ∈ gt_tbl := gt_mem 1025 (by decide +kernel) rfl
theorem kv_X10_lesser : gt_S yX10_lesser cX10_lesser 2 (some .int) 2 := ⟨gt_mem 1026 (by decide +kernel) rfl, gt_mem 11 (by decide +kernel) rfl, gt_mem 1027 (by decide +kernel) rfl, ⟨by decide +kernel, by decide +kernel, by decide +kernel⟩, by decide⟩
theorem km_X10_185 : Cond.methodLink RX10 185 yX10_guts ∈ gt_tbl := gt_mem 1028 (by decide +kernel) rfl
theorem kv_X10_guts : gt_V yX10_guts cX10_guts 5 (some .int) 0 := ⟨gt_mem 1030 (by decide +kernel) rfl, gt_memp (y := yX10_guts) (c := 29) 48 (by decide +kernel), gt_mem 11 (by decide +kernel) rfl, gt_mem 1031 (by decide +kernel) rfl, ⟨by decide +kernel, by decide +kernel, by decide +kernel⟩, by decide⟩
theorem km_L_35 : Cond.methodLink RL 35 yX10_cell ∈ gt_tbl := gt_mem 1032 (by decide +kernel) rfl
theorem kv_X10_cell : gt_V yX10_cell cX10_cell 3 (some .int) 2 := ⟨gt_mem 1033 (by decide +kernel) rfl, gt_mem 1034 (by decide +kernel) rfl, gt_mem 11 (by decide +kernel) rfl, gt_mem 1035 (by decide +kernel) rfl, ⟨by decide +kernel, by decide +kernel, by decide +kernel⟩, by decide⟩
theorem km_X10_188 : Cond.methodLink RX10 188 yX10_isCell ∈ gt_tbl := gt_mem 1036 (by decide +kernel) rfl
theorem kv_X10_isCell : gt_V yX10_isCell cX10_isCell 2 (some .boolean) 1 := ⟨gt_mem 1038 (by decide +kernel) rfl, gt_memp (y := yX10_isCell) (c := 29) 49 (by decide +kernel), gt_mem 11 (by decide +kernel) rfl, gt_mem 1039 (by decide +kernel) rfl, ⟨by decide +kernel, by decide +kernel, by decide +kernel⟩, by decide⟩
theorem kc_X10_191 : Cond.constant RX10 191 (-1000000001) ∈ gt_tbl := gt_mem 1040 (by decide +kernel) rfl
theorem km_X10_192 : Cond.methodLink RX10 192 yX10_strongest ∈ gt_tbl := gt_mem 1041 (by decide +kernel) rfl
theorem kv_X10_strongest : gt_V yX10_strongest cX10_strongest 4 (some .int) 1 := ⟨gt_mem 1043 (by decide +kernel) rfl, gt_memp (y := yX10_strongest) (c := 29) 50 (by decide +kernel), gt_mem 11 (by decide +kernel) rfl, gt_mem 1044 (by decide +kernel) rfl, ⟨by decide +kernel, by decide +kernel, by decide +kernel⟩, by decide⟩
theorem km_L_39 : Cond.methodLink RL 39 yX10_tower ∈ gt_tbl := gt_mem 1045 (by decide +kernel) rfl
theorem kv_X10_tower : gt_V yX10_tower cX10_tower 3 (some .int) 2 := ⟨gt_mem 1046 (by decide +kernel) rfl, gt_mem 1047 (by decide +kernel) rfl, gt_mem 11 (by decide +kernel) rfl, gt_mem 1048 (by decide +kernel) rfl, ⟨by decide +kernel, by decide +kernel, by decide +kernel⟩, by decide⟩
theorem km_X10_196 : Cond.methodLink RX10 196 yX10_isTower ∈ gt_tbl := gt_mem 1049 (by decide +kernel) rfl
theorem kv_X10_isTower : gt_V yX10_isTower cX10_isTower 2 (some .boolean) 1 := ⟨gt_mem 1051 (by decide +kernel) rfl, gt_memp (y := yX10_isTower) (c := 29) 51 (by decide +kernel), gt_mem 11 (by decide +kernel) rfl, gt_mem 1052 (by decide +kernel) rfl, ⟨by decide +kernel, by decide +kernel, by decide +kernel⟩, by decide⟩
theorem km_X10_199 : Cond.methodLink RX10 199 yX10_sitterOn ∈ gt_tbl := gt_mem 1053 (by decide +kernel) rfl
theorem kv_X10_sitterOn : gt_V yX10_sitterOn cX10_sitterOn 5 (some .int) 2 := ⟨gt_mem 1055 (by decide +kernel) rfl, gt_memp (y := yX10_sitterOn) (c := 29) 52 (by decide +kernel), gt_mem 11 (by decide +kernel) rfl, gt_mem 1056 (by decide +kernel) rfl, ⟨by decide +kernel, by decide +kernel, by decide +kernel⟩, by decide⟩
theorem km_L_43 : Cond.methodLink RL 43 yX10_player ∈ gt_tbl := gt_mem 1057 (by decide +kernel) rfl
theorem kv_X10_player : gt_V yX10_player cX10_player 3 (some .int) 2 := ⟨gt_mem 1058 (by decide +kernel) rfl, gt_mem 1059 (by decide +kernel) rfl, gt_mem 11 (by decide +kernel) rfl, gt_mem 1060 (by decide +kernel) rfl, ⟨by decide +kernel, by decide +kernel, by decide +kernel⟩, by decide⟩
theorem km_X10_202 : Cond.methodLink RX10 202 yX10_isPlayer ∈ gt_tbl := gt_mem 1061 (by decide +kernel) rfl
theorem kv_X10_isPlayer : gt_V yX10_isPlayer cX10_isPlayer 2 (some .boolean) 1 := ⟨gt_mem 1063 (by decide +kernel) rfl, gt_memp (y := yX10_isPlayer) (c := 29) 53 (by decide +kernel), gt_mem 11 (by decide +kernel) rfl, gt_mem 1064 (by decide +kernel) rfl, ⟨by decide +kernel, by decide +kernel, by decide +kernel⟩, by decide⟩
theorem km_L_47 : Cond.methodLink RL 47 yX10_boat ∈ gt_tbl := gt_mem 1065 (by decide +kernel) rfl
theorem kv_X10_boat : gt_V yX10_boat cX10_boat 3 (some .int) 2 := ⟨gt_mem 1066 (by decide +kernel) rfl, gt_mem 1067 (by decide +kernel) rfl, gt_mem 11 (by decide +kernel) rfl, gt_mem 1068 (by decide +kernel) rfl, ⟨by decide +kernel, by decide +kernel, by decide +kernel⟩, by decide⟩
theorem km_X10_205 : Cond.methodLink RX10 205 yX10_isBoat ∈ gt_tbl := gt_mem 1069 (by decide +kernel) rfl
theorem kv_X10_isBoat : gt_V yX10_isBoat cX10_isBoat 2 (some .boolean) 1 := ⟨gt_mem 1071 (by decide +kernel) rfl, gt_memp (y := yX10_isBoat) (c := 29) 54 (by decide +kernel), gt_mem 11 (by decide +kernel) rfl, gt_mem 1072 (by decide +kernel) rfl, ⟨by decide +kernel, by decide +kernel, by decide +kernel⟩, by decide⟩
theorem km_L_51 : Cond.methodLink RL 51 yX10_hour ∈ gt_tbl := gt_mem 1073 (by decide +kernel) rfl
theorem kv_X10_hour : gt_V yX10_hour cX10_hour 4 (some .int) 1 := ⟨gt_mem 1074 (by decide +kernel) rfl, gt_mem 1075 (by decide +kernel) rfl, gt_mem 11 (by decide +kernel) rfl, gt_mem 1076 (by decide +kernel) rfl, ⟨by decide +kernel, by decide +kernel, by decide +kernel⟩, by decide⟩
theorem km_X10_222 : Cond.methodLink RX10 222 yX10_refuses ∈ gt_tbl := gt_mem 1077 (by decide +kernel) rfl
theorem kv_X10_refuses : gt_V yX10_refuses cX10_refuses 2 (some .int) 1 := ⟨gt_mem 1079 (by decide +kernel) rfl, gt_memp (y := yX10_refuses) (c := 29) 55 (by decide +kernel), gt_mem 11 (by decide +kernel) rfl, gt_mem 1080 (by decide +kernel) rfl, ⟨by decide +kernel, by decide +kernel, by decide +kernel⟩, by decide⟩
theorem kc_X10_219 : Cond.constantLong RX10 219 60 ∈ gt_tbl := gt_mem 1081 (by decide +kernel) rfl
theorem kc_X10_221 : Cond.constant RX10 221 (-1000000003) ∈ gt_tbl := gt_mem 1082 (by decide +kernel) rfl
theorem km_X10_225 : Cond.methodLink RX10 225 yX10_remember ∈ gt_tbl := gt_mem 1083 (by decide +kernel) rfl
theorem kv_X10_remember : gt_V yX10_remember cX10_remember 2 none 0 := ⟨gt_mem 1085 (by decide +kernel) rfl, gt_memp (y := yX10_remember) (c := 29) 56 (by decide +kernel), gt_mem 11 (by decide +kernel) rfl, gt_mem 1086 (by decide +kernel) rfl, ⟨by decide +kernel, by decide +kernel, by decide +kernel⟩, by decide⟩
theorem km_X10_228 : Cond.methodLink RX10 228 yX10_hourGoes ∈ gt_tbl := gt_mem 1087 (by decide +kernel) rfl
theorem kv_X10_hourGoes : gt_V yX10_hourGoes cX10_hourGoes 6 none 1 := ⟨gt_mem 1089 (by decide +kernel) rfl, gt_memp (y := yX10_hourGoes) (c := 29) 57 (by decide +kernel), gt_mem 11 (by decide +kernel) rfl, gt_mem 1090 (by decide +kernel) rfl, ⟨by decide +kernel, by decide +kernel, by decide +kernel⟩, by decide⟩
theorem km_L_55 : Cond.methodLink RL 55 yX10_sit ∈ gt_tbl := gt_mem 1091 (by decide +kernel) rfl
theorem kv_X10_sit : gt_V yX10_sit cX10_sit 4 (some .int) 2 := ⟨gt_mem 1092 (by decide +kernel) rfl, gt_mem 1093 (by decide +kernel) rfl, gt_mem 11 (by decide +kernel) rfl, gt_mem 1094 (by decide +kernel) rfl, ⟨by decide +kernel, by decide +kernel, by decide +kernel⟩, by decide⟩
theorem km_L_59 : Cond.methodLink RL 59 yX10_rest ∈ gt_tbl := gt_mem 1095 (by decide +kernel) rfl
theorem kv_X10_rest : gt_V yX10_rest cX10_rest 3 (some .int) 1 := ⟨gt_mem 1096 (by decide +kernel) rfl, gt_mem 1097 (by decide +kernel) rfl, gt_mem 11 (by decide +kernel) rfl, gt_mem 1098 (by decide +kernel) rfl, ⟨by decide +kernel, by decide +kernel, by decide +kernel⟩, by decide⟩
theorem km_L_64 : Cond.methodLink RL 64 yX10_sleep ∈ gt_tbl := gt_mem 1099 (by decide +kernel) rfl
theorem kv_X10_sleep : gt_V yX10_sleep cX10_sleep 4 (some .int) 2 := ⟨gt_mem 1100 (by decide +kernel) rfl, gt_mem 1101 (by decide +kernel) rfl, gt_mem 11 (by decide +kernel) rfl, gt_mem 1102 (by decide +kernel) rfl, ⟨by decide +kernel, by decide +kernel, by decide +kernel⟩, by decide⟩
theorem km_X10_231 : Cond.methodLink RX10 231 yX10_sleeps ∈ gt_tbl := gt_mem 1103 (by decide +kernel) rfl
theorem kv_X10_sleeps : gt_V yX10_sleeps cX10_sleeps 3 none 2 := ⟨gt_mem 1105 (by decide +kernel) rfl, gt_memp (y := yX10_sleeps) (c := 29) 58 (by decide +kernel), gt_mem 11 (by decide +kernel) rfl, gt_mem 1106 (by decide +kernel) rfl, ⟨by decide +kernel, by decide +kernel, by decide +kernel⟩, by decide⟩
theorem km_L_68 : Cond.methodLink RL 68 yX10_turn ∈ gt_tbl := gt_mem 1107 (by decide +kernel) rfl
theorem kv_X10_turn : gt_V yX10_turn cX10_turn 4 (some .int) 2 := ⟨gt_mem 1108 (by decide +kernel) rfl, gt_mem 1109 (by decide +kernel) rfl, gt_mem 11 (by decide +kernel) rfl, gt_mem 1110 (by decide +kernel) rfl, ⟨by decide +kernel, by decide +kernel, by decide +kernel⟩, by decide⟩
theorem kc_X10_235 : Cond.constantLong RX10 235 99 ∈ gt_tbl := gt_mem 1111 (by decide +kernel) rfl
theorem km_L_72 : Cond.methodLink RL 72 yX10_send ∈ gt_tbl := gt_mem 1112 (by decide +kernel) rfl
theorem kv_X10_send : gt_V yX10_send cX10_send 3 (some .int) 1 := ⟨gt_mem 1113 (by decide +kernel) rfl, gt_mem 1114 (by decide +kernel) rfl, gt_mem 11 (by decide +kernel) rfl, gt_mem 1115 (by decide +kernel) rfl, ⟨by decide +kernel, by decide +kernel, by decide +kernel⟩, by decide⟩
theorem km_L_76 : Cond.methodLink RL 76 yX10_drift ∈ gt_tbl := gt_mem 1116 (by decide +kernel) rfl
theorem kv_X10_drift : gt_V yX10_drift cX10_drift 4 (some .int) 1 := ⟨gt_mem 1117 (by decide +kernel) rfl, gt_mem 1118 (by decide +kernel) rfl, gt_mem 11 (by decide +kernel) rfl, gt_mem 1119 (by decide +kernel) rfl, ⟨by decide +kernel, by decide +kernel, by decide +kernel⟩, by decide⟩
theorem km_X10_252 : Cond.methodLink RX10 252 yX10_draws ∈ gt_tbl := gt_mem 1120 (by decide +kernel) rfl
theorem kv_X10_draws : gt_V yX10_draws cX10_draws 4 none 0 := ⟨gt_mem 1122 (by decide +kernel) rfl, gt_memp (y := yX10_draws) (c := 29) 59 (by decide +kernel), gt_mem 11 (by decide +kernel) rfl, gt_mem 1123 (by decide +kernel) rfl, ⟨by decide +kernel, by decide +kernel, by decide +kernel⟩, by decide⟩
theorem km_X10_249 : Cond.methodLink RX10 249 yX10_draw ∈ gt_tbl := gt_mem 1124 (by decide +kernel) rfl
theorem kv_X10_draw : gt_V yX10_draw cX10_draw 2 (some .int) 1 := ⟨gt_mem 1126 (by decide +kernel) rfl, gt_memp (y := yX10_draw) (c := 29) 60 (by decide +kernel), gt_mem 11 (by decide +kernel) rfl, gt_mem 1127 (by decide +kernel) rfl, ⟨by decide +kernel, by decide +kernel, by decide +kernel⟩, by decide⟩
theorem kc_X10_241 : Cond.constantLong RX10 241 1103515245 ∈ gt_tbl := gt_mem 1128 (by decide +kernel) rfl
theorem kc_X10_243 : Cond.constantLong RX10 243 12345 ∈ gt_tbl := gt_mem 1129 (by decide +kernel) rfl
theorem kc_X10_245 : Cond.constantLong RX10 245 2147483648 ∈ gt_tbl := gt_mem 1130 (by decide +kernel) rfl
theorem kc_X10_247 : Cond.constantLong RX10 247 65536 ∈ gt_tbl := gt_mem 1131 (by decide +kernel) rfl
theorem km_L_80 : Cond.methodLink RL 80 yX10_undo ∈ gt_tbl := gt_mem 1132 (by decide +kernel) rfl
theorem kv_X10_undo : gt_V yX10_undo cX10_undo 1 (some .int) 0 := ⟨gt_mem 1133 (by decide +kernel) rfl, gt_mem 1134 (by decide +kernel) rfl, gt_mem 11 (by decide +kernel) rfl, gt_mem 1135 (by decide +kernel) rfl, ⟨by decide +kernel, by decide +kernel, by decide +kernel⟩, by decide⟩
theorem km_L_85 : Cond.methodLink RL 85 yX10_sea ∈ gt_tbl := gt_mem 1136 (by decide +kernel) rfl
theorem kv_X10_sea : gt_V yX10_sea cX10_sea 5 (some .int) 3 := ⟨gt_mem 1137 (by decide +kernel) rfl, gt_mem 1138 (by decide +kernel) rfl, gt_mem 11 (by decide +kernel) rfl, gt_mem 1139 (by decide +kernel) rfl, ⟨by decide +kernel, by decide +kernel, by decide +kernel⟩, by decide⟩
theorem kc_X10_255 : Cond.constantLong RX10 255 100 ∈ gt_tbl := gt_mem 1140 (by decide +kernel) rfl
theorem km_L_89 : Cond.methodLink RL 89 yX10_deepest ∈ gt_tbl := gt_mem 1141 (by decide +kernel) rfl
theorem kv_X10_deepest : gt_V yX10_deepest cX10_deepest 8 (some .int) 3 := ⟨gt_mem 1142 (by decide +kernel) rfl, gt_mem 1143 (by decide +kernel) rfl, gt_mem 11 (by decide +kernel) rfl, gt_mem 1144 (by decide +kernel) rfl, ⟨by decide +kernel, by decide +kernel, by decide +kernel⟩, by decide⟩
theorem km_L_93 : Cond.methodLink RL 93 yX10_comes ∈ gt_tbl := gt_mem 1145 (by decide +kernel) rfl
theorem kv_X10_comes : gt_V yX10_comes cX10_comes 3 (some .int) 1 := ⟨gt_mem 1146 (by decide +kernel) rfl, gt_mem 1147 (by decide +kernel) rfl, gt_mem 11 (by decide +kernel) rfl, gt_mem 1148 (by decide +kernel) rfl, ⟨by decide +kernel, by decide +kernel, by decide +kernel⟩, by decide⟩
theorem km_L_98 : Cond.methodLink RL 98 yX10_seats ∈ gt_tbl := gt_mem 1149 (by decide +kernel) rfl
theorem kv_X10_seats : gt_V yX10_seats cX10_seats 5 (some .int) 4 := ⟨gt_mem 1150 (by decide +kernel) rfl, gt_mem 1151 (by decide +kernel) rfl, gt_mem 11 (by decide +kernel) rfl, gt_mem 1152 (by decide +kernel) rfl, ⟨by decide +kernel, by decide +kernel, by decide +kernel⟩, by decide⟩
theorem kc_X10_277 : Cond.constantLong RX10 277 20 ∈ gt_tbl := gt_mem 1153 (by decide +kernel) rfl
theorem km_X10_279 : Cond.methodLink RX10 279 yX10_plans ∈ gt_tbl := gt_mem 1154 (by decide +kernel) rfl
theorem kv_X10_plans : gt_V yX10_plans cX10_plans 5 none 3 := ⟨gt_mem 1156 (by decide +kernel) rfl, gt_memp (y := yX10_plans) (c := 29) 61 (by decide +kernel), gt_mem 11 (by decide +kernel) rfl, gt_mem 1157 (by decide +kernel) rfl, ⟨by decide +kernel, by decide +kernel, by decide +kernel⟩, by decide⟩
theorem kc_X10_269 : Cond.constant RX10 269 100000000 ∈ gt_tbl := gt_mem 1158 (by decide +kernel) rfl
theorem km_X10_270 : Cond.methodLink RX10 270 yX10_weighs ∈ gt_tbl := gt_mem 1159 (by decide +kernel) rfl
theorem kv_X10_weighs : gt_V yX10_weighs cX10_weighs 8 none 3 := ⟨gt_mem 1161 (by decide +kernel) rfl, gt_memp (y := yX10_weighs) (c := 29) 62 (by decide +kernel), gt_mem 11 (by decide +kernel) rfl, gt_mem 1162 (by decide +kernel) rfl, ⟨by decide +kernel, by decide +kernel, by decide +kernel⟩, by decide⟩
theorem km_X10_274 : Cond.methodLink RX10 274 yX10_goesOn ∈ gt_tbl := gt_mem 1163 (by decide +kernel) rfl
theorem kv_X10_goesOn : gt_V yX10_goesOn cX10_goesOn 2 (some .int) 1 := ⟨gt_mem 1165 (by decide +kernel) rfl, gt_memp (y := yX10_goesOn) (c := 29) 63 (by decide +kernel), gt_mem 11 (by decide +kernel) rfl, gt_mem 1166 (by decide +kernel) rfl, ⟨by decide +kernel, by decide +kernel, by decide +kernel⟩, by decide⟩
theorem km_X10_266 : Cond.methodLink RX10 266 yX10_mayBe ∈ gt_tbl := gt_mem 1167 (by decide +kernel) rfl
theorem kv_X10_mayBe : gt_V yX10_mayBe cX10_mayBe 4 (some .boolean) 1 := ⟨gt_mem 1169 (by decide +kernel) rfl, gt_memp (y := yX10_mayBe) (c := 29) 64 (by decide +kernel), gt_mem 11 (by decide +kernel) rfl, gt_mem 1170 (by decide +kernel) rfl, ⟨by decide +kernel, by decide +kernel, by decide +kernel⟩, by decide⟩
theorem km_L_102 : Cond.methodLink RL 102 yX10_leave ∈ gt_tbl := gt_mem 1171 (by decide +kernel) rfl
theorem kv_X10_leave : gt_V yX10_leave cX10_leave 6 (some .int) 1 := ⟨gt_mem 1172 (by decide +kernel) rfl, gt_mem 1173 (by decide +kernel) rfl, gt_mem 11 (by decide +kernel) rfl, gt_mem 1174 (by decide +kernel) rfl, ⟨by decide +kernel, by decide +kernel, by decide +kernel⟩, by decide⟩
theorem km_L_106 : Cond.methodLink RL 106 yX10_share ∈ gt_tbl := gt_mem 1175 (by decide +kernel) rfl
theorem kv_X10_share : gt_V yX10_share cX10_share 5 (some .int) 2 := ⟨gt_mem 1176 (by decide +kernel) rfl, gt_mem 1177 (by decide +kernel) rfl, gt_mem 11 (by decide +kernel) rfl, gt_mem 1178 (by decide +kernel) rfl, ⟨by decide +kernel, by decide +kernel, by decide +kernel⟩, by decide⟩
theorem kc_X10_282 : Cond.constantLong RX10 282 999 ∈ gt_tbl := gt_mem 1179 (by decide +kernel) rfl
theorem km_X10_284 : Cond.methodLink RX10 284 yX10_shareOf ∈ gt_tbl := gt_mem 1180 (by decide +kernel) rfl
theorem kv_X10_shareOf : gt_V yX10_shareOf cX10_shareOf 5 (some .int) 2 := ⟨gt_mem 1182 (by decide +kernel) rfl, gt_memp (y := yX10_shareOf) (c := 29) 65 (by decide +kernel), gt_mem 11 (by decide +kernel) rfl, gt_mem 1183 (by decide +kernel) rfl, ⟨by decide +kernel, by decide +kernel, by decide +kernel⟩, by decide⟩
theorem km_L_110 : Cond.methodLink RL 110 yX10_calm ∈ gt_tbl := gt_mem 1184 (by decide +kernel) rfl
theorem kv_X10_calm : gt_V yX10_calm cX10_calm 6 (some .int) 2 := ⟨gt_mem 1185 (by decide +kernel) rfl, gt_mem 1186 (by decide +kernel) rfl, gt_mem 11 (by decide +kernel) rfl, gt_mem 1187 (by decide +kernel) rfl, ⟨by decide +kernel, by decide +kernel, by decide +kernel⟩, by decide⟩
theorem kc_X10_287 : Cond.constantLong RX10 287 1000000000 ∈ gt_tbl := gt_mem 1188 (by decide +kernel) rfl
theorem km_L_114 : Cond.methodLink RL 114 yX10_mark ∈ gt_tbl := gt_mem 1189 (by decide +kernel) rfl
theorem kv_X10_mark : gt_V yX10_mark cX10_mark 4 (some .int) 3 := ⟨gt_mem 1190 (by decide +kernel) rfl, gt_mem 1191 (by decide +kernel) rfl, gt_mem 11 (by decide +kernel) rfl, gt_mem 1192 (by decide +kernel) rfl, ⟨by decide +kernel, by decide +kernel, by decide +kernel⟩, by decide⟩
theorem km_L_118 : Cond.methodLink RL 118 yX10_look ∈ gt_tbl := gt_mem 1193 (by decide +kernel) rfl
theorem kv_X10_look : gt_V yX10_look cX10_look 7 (some .int) 0 := ⟨gt_mem 1194 (by decide +kernel) rfl, gt_mem 1195 (by decide +kernel) rfl, gt_mem 11 (by decide +kernel) rfl, gt_mem 1196 (by decide +kernel) rfl, ⟨by decide +kernel, by decide +kernel, by decide +kernel⟩, by decide⟩
theorem km_X10_293 : Cond.methodLink RX10 293 yX10_bits ∈ gt_tbl := gt_mem 1197 (by decide +kernel) rfl
theorem kv_X10_bits : gt_S yX10_bits cX10_bits 3 (some .int) 1 := ⟨gt_mem 1198 (by decide +kernel) rfl, gt_mem 11 (by decide +kernel) rfl, gt_mem 1199 (by decide +kernel) rfl, ⟨by decide +kernel, by decide +kernel, by decide +kernel⟩, by decide⟩
theorem km_X10_296 : Cond.methodLink RX10 296 yX10_greatestPart ∈ gt_tbl := gt_mem 1200 (by decide +kernel) rfl
theorem kv_X10_greatestPart : gt_V yX10_greatestPart cX10_greatestPart 7 (some .int) 2 := ⟨gt_mem 1202 (by decide +kernel) rfl, gt_memp (y := yX10_greatestPart) (c := 29) 66 (by decide +kernel), gt_mem 11 (by decide +kernel) rfl, gt_mem 1203 (by decide +kernel) rfl, ⟨by decide +kernel, by decide +kernel, by decide +kernel⟩, by decide⟩
theorem km_L_122 : Cond.methodLink RL 122 yX10_see ∈ gt_tbl := gt_mem 1204 (by decide +kernel) rfl
theorem kv_X10_see : gt_V yX10_see cX10_see 4 (some .int) 3 := ⟨gt_mem 1205 (by decide +kernel) rfl, gt_mem 1206 (by decide +kernel) rfl, gt_mem 11 (by decide +kernel) rfl, gt_mem 1207 (by decide +kernel) rfl, ⟨by decide +kernel, by decide +kernel, by decide +kernel⟩, by decide⟩
theorem kc_X10_299 : Cond.constantLong RX10 299 9 ∈ gt_tbl := gt_mem 1208 (by decide +kernel) rfl
theorem km_L_126 : Cond.methodLink RL 126 yX10_write ∈ gt_tbl := gt_mem 1209 (by decide +kernel) rfl
theorem kv_X10_write : gt_V yX10_write cX10_write 3 (some .int) 2 := ⟨gt_mem 1210 (by decide +kernel) rfl, gt_mem 1211 (by decide +kernel) rfl, gt_mem 11 (by decide +kernel) rfl, gt_mem 1212 (by decide +kernel) rfl, ⟨by decide +kernel, by decide +kernel, by decide +kernel⟩, by decide⟩
theorem km_L_130 : Cond.methodLink RL 130 yX10_tear ∈ gt_tbl := gt_mem 1213 (by decide +kernel) rfl
theorem kv_X10_tear : gt_V yX10_tear cX10_tear 2 (some .int) 0 := ⟨gt_mem 1214 (by decide +kernel) rfl, gt_mem 1215 (by decide +kernel) rfl, gt_mem 11 (by decide +kernel) rfl, gt_mem 1216 (by decide +kernel) rfl, ⟨by decide +kernel, by decide +kernel, by decide +kernel⟩, by decide⟩
theorem km_L_134 : Cond.methodLink RL 134 yX10_judge ∈ gt_tbl := gt_mem 1217 (by decide +kernel) rfl
theorem kv_X10_judge : gt_V yX10_judge cX10_judge 2 (some .int) 0 := ⟨gt_mem 1218 (by decide +kernel) rfl, gt_mem 1219 (by decide +kernel) rfl, gt_mem 11 (by decide +kernel) rfl, gt_mem 1220 (by decide +kernel) rfl, ⟨by decide +kernel, by decide +kernel, by decide +kernel⟩, by decide⟩
theorem km_L_138 : Cond.methodLink RL 138 yX10_seed ∈ gt_tbl := gt_mem 1221 (by decide +kernel) rfl
theorem kv_X10_seed : gt_V yX10_seed cX10_seed 3 (some .int) 1 := ⟨gt_mem 1222 (by decide +kernel) rfl, gt_mem 1223 (by decide +kernel) rfl, gt_mem 11 (by decide +kernel) rfl, gt_mem 1224 (by decide +kernel) rfl, ⟨by decide +kernel, by decide +kernel, by decide +kernel⟩, by decide⟩
theorem km_L_142 : Cond.methodLink RL 142 yX10_keep ∈ gt_tbl := gt_mem 1225 (by decide +kernel) rfl
theorem kv_X10_keep : gt_V yX10_keep cX10_keep 2 (some .int) 1 := ⟨gt_mem 1226 (by decide +kernel) rfl, gt_mem 1227 (by decide +kernel) rfl, gt_mem 11 (by decide +kernel) rfl, gt_mem 1228 (by decide +kernel) rfl, ⟨by decide +kernel, by decide +kernel, by decide +kernel⟩, by decide⟩
theorem km_L_146 : Cond.methodLink RL 146 yX10_goBack ∈ gt_tbl := gt_mem 1229 (by decide +kernel) rfl
theorem kv_X10_goBack : gt_V yX10_goBack cX10_goBack 2 (some .int) 1 := ⟨gt_mem 1230 (by decide +kernel) rfl, gt_mem 1231 (by decide +kernel) rfl, gt_mem 11 (by decide +kernel) rfl, gt_mem 1232 (by decide +kernel) rfl, ⟨by decide +kernel, by decide +kernel, by decide +kernel⟩, by decide⟩
theorem kmath_max : Cond.static Lib.Math.max.name ∈ gt_tbl ∧ Cond.initialized "java/lang/Math" ∈ gt_tbl ∧ Cond.code Lib.Math.max.name Lib.Math.max.code 2 (some .int) ∈ gt_tbl := ⟨gt_mem 454 (by decide +kernel) rfl, gt_mem 13 (by decide +kernel) rfl, gt_mem 455 (by decide +kernel) rfl⟩
theorem kmath_min : Cond.static Lib.Math.min.name ∈ gt_tbl ∧ Cond.initialized "java/lang/Math" ∈ gt_tbl ∧ Cond.code Lib.Math.min.name Lib.Math.min.code 2 (some .int) ∈ gt_tbl := ⟨gt_mem 519 (by decide +kernel) rfl, gt_mem 13 (by decide +kernel) rfl, gt_mem 520 (by decide +kernel) rfl⟩
theorem kmath_abs : Cond.static Lib.Math.abs.name ∈ gt_tbl ∧ Cond.initialized "java/lang/Math" ∈ gt_tbl ∧ Cond.code Lib.Math.abs.name Lib.Math.abs.code 1 (some .int) ∈ gt_tbl := ⟨gt_mem 451 (by decide +kernel) rfl, gt_mem 13 (by decide +kernel) rfl, gt_mem 452 (by decide +kernel) rfl⟩
theorem kcopy : Cond.native arraycopyName ∈ gt_tbl ∧ Cond.static arraycopyName ∈ gt_tbl ∧ Cond.initialized "java/lang/System" ∈ gt_tbl := ⟨gt_mem 497 (by decide +kernel) rfl, gt_mem 496 (by decide +kernel) rfl, gt_mem 14 (by decide +kernel) rfl⟩
theorem kcopy_w : nativeFrameWords "java/lang/System" "arraycopy" 5 + 11 ≤ 32 := by decide +kernel
theorem kobj : Cond.instanceMethod Lib.objectInit ∈ gt_tbl ∧ Cond.code Lib.objectInit ⟨#[0xb1]⟩ 1 none ∈ gt_tbl := ⟨gt_mem 21 (by decide +kernel) rfl, gt_mem 22 (by decide +kernel) rfl⟩
theorem karrI : Cond.arrayClass .int ∈ gt_tbl := gt_mem 45 (by decide +kernel) rfl
theorem karrZ : Cond.arrayClass .boolean ∈ gt_tbl := gt_mem 905 (by decide +kernel) rfl
theorem kl_L_7 : Cond.classLink RL 7 "GurdyTide" ∈ gt_tbl := gt_mem 15 (by decide +kernel) rfl
theorem kn_L_7 : gt_Nw RL 7 9 12 [.null, .null, .null, .null, .null, .null, .null, .null, .null, .null, .null, .int 0] := ⟨_, _, tyX9, rfl, kl_L_7, gt_mem 16 (by decide +kernel) rfl, gt_mem 1 (by decide +kernel) rfl, kin_X9, tyX9_ok, by decide +kernel⟩
theorem kl_X9_7 : Cond.classLink RX9 7 "GurdyTide$Reader" ∈ gt_tbl := gt_mem 23 (by decide +kernel) rfl
theorem kn_X9_7 : gt_Nw RX9 7 6 5 [.null, .int 0, .int 0, .int 0, .int 0] := ⟨_, _, tyX6, rfl, kl_X9_7, gt_mem 24 (by decide +kernel) rfl, gt_mem 2 (by decide +kernel) rfl, kin_X6, tyX6_ok, by decide +kernel⟩
theorem kl_X9_16 : Cond.classLink RX9 16 "GurdyTide$Coast" ∈ gt_tbl := gt_mem 46 (by decide +kernel) rfl
theorem kn_X9_16 : gt_Nw RX9 16 0 11 [.int 0, .int 0, .int 0, .int 0, .null, .null, .null, .null, .null, .null, .null] := ⟨_, _, tyX0, rfl, kl_X9_16, gt_mem 47 (by decide +kernel) rfl, gt_mem 3 (by decide +kernel) rfl, kin_X0, tyX0_ok, by decide +kernel⟩
theorem kl_X9_26 : Cond.classLink RX9 26 "GurdyTide$State" ∈ gt_tbl := gt_mem 125 (by decide +kernel) rfl
theorem kn_X9_26 : gt_Nw RX9 26 8 6 [.int 0, .int 0, .null, .null, .null, .null] := ⟨_, _, tyX8, rfl, kl_X9_26, gt_mem 126 (by decide +kernel) rfl, gt_mem 4 (by decide +kernel) rfl, kin_X8, tyX8_ok, by decide +kernel⟩
theorem kl_X9_36 : Cond.classLink RX9 36 "GurdyTide$Past" ∈ gt_tbl := gt_mem 161 (by decide +kernel) rfl
theorem kn_X9_36 : gt_Nw RX9 36 4 3 [.null, .int 0, .int 0] := ⟨_, _, tyX4, rfl, kl_X9_36, gt_mem 162 (by decide +kernel) rfl, gt_mem 5 (by decide +kernel) rfl, kin_X4, tyX4_ok, by decide +kernel⟩
theorem kl_X4_9 : Cond.classLink RX4 9 "GurdyTide$State" ∈ gt_tbl := gt_mem 167 (by decide +kernel) rfl
theorem kn_X4_9 : gt_Nw RX4 9 8 6 [.int 0, .int 0, .null, .null, .null, .null] := ⟨_, _, tyX8, rfl, kl_X4_9, gt_mem 126 (by decide +kernel) rfl, gt_mem 4 (by decide +kernel) rfl, kin_X8, tyX8_ok, by decide +kernel⟩
theorem kl_X9_43 : Cond.classLink RX9 43 "GurdyTide$Image" ∈ gt_tbl := gt_mem 181 (by decide +kernel) rfl
theorem kn_X9_43 : gt_Nw RX9 43 2 3 [.null, .int 0, .int 0] := ⟨_, _, tyX2, rfl, kl_X9_43, gt_mem 276 (by decide +kernel) rfl, gt_mem 10 (by decide +kernel) rfl, kin_X2, tyX2_ok, by decide +kernel⟩
theorem kl_X9_49 : Cond.classLink RX9 49 "GurdyTide$Draws" ∈ gt_tbl := gt_mem 183 (by decide +kernel) rfl
theorem kn_X9_49 : gt_Nw RX9 49 1 1 [.int 0] := ⟨_, _, tyX1, rfl, kl_X9_49, gt_mem 184 (by decide +kernel) rfl, gt_mem 6 (by decide +kernel) rfl, kin_X1, tyX1_ok, by decide +kernel⟩
theorem kl_X9_56 : Cond.classLink RX9 56 "GurdyTide$Notes" ∈ gt_tbl := gt_mem 194 (by decide +kernel) rfl
theorem kn_X9_56 : gt_Nw RX9 56 3 11 [.int 0, .int 0, .int 0, .null, .null, .null, .null, .null, .null, .null, .null] := ⟨_, _, tyX3, rfl, kl_X9_56, gt_mem 195 (by decide +kernel) rfl, gt_mem 7 (by decide +kernel) rfl, kin_X3, tyX3_ok, by decide +kernel⟩
theorem kl_X9_63 : Cond.classLink RX9 63 "GurdyTide$Plan" ∈ gt_tbl := gt_mem 237 (by decide +kernel) rfl
theorem kn_X9_63 : gt_Nw RX9 63 5 6 [.null, .null, .null, .null, .int 0, .int 0] := ⟨_, _, tyX5, rfl, kl_X9_63, gt_mem 238 (by decide +kernel) rfl, gt_mem 8 (by decide +kernel) rfl, kin_X5, tyX5_ok, by decide +kernel⟩
theorem kl_X5_18 : Cond.classLink RX5 18 "[[I" ∈ gt_tbl := gt_mem 243 (by decide +kernel) rfl
theorem kl_X9_70 : Cond.classLink RX9 70 "GurdyTide$Sleepers" ∈ gt_tbl := gt_mem 265 (by decide +kernel) rfl
theorem kn_X9_70 : gt_Nw RX9 70 7 1 [.null] := ⟨_, _, tyX7, rfl, kl_X9_70, gt_mem 266 (by decide +kernel) rfl, gt_mem 9 (by decide +kernel) rfl, kin_X7, tyX7_ok, by decide +kernel⟩
theorem kl_X7_9 : Cond.classLink RX7 9 "[[I" ∈ gt_tbl := gt_mem 271 (by decide +kernel) rfl
theorem kl_X2_7 : Cond.classLink RX2 7 "GurdyTide$State" ∈ gt_tbl := gt_mem 281 (by decide +kernel) rfl
theorem kn_X2_7 : gt_Nw RX2 7 8 6 [.int 0, .int 0, .null, .null, .null, .null] := ⟨_, _, tyX8, rfl, kl_X2_7, gt_mem 126 (by decide +kernel) rfl, gt_mem 4 (by decide +kernel) rfl, kin_X8, tyX8_ok, by decide +kernel⟩
theorem kl_L_10 : Cond.classLink RL 10 "GurdyTideModel" ∈ gt_tbl := gt_mem 799 (by decide +kernel) rfl
theorem kn_L_10 : gt_Nw RL 10 10 29 [.null, .null, .null, .null, .null, .int 0, .null, .null, .long 0, .null, .int 0, .int 0, .null, .int 0, .null, .int 0, .null, .int 0, .int 0, .int 0, .int 0, .int 0, .int 0, .int 0, .null, .null, .int 0, .int 0, .null] := ⟨_, _, tyX10, rfl, kl_L_10, gt_mem 800 (by decide +kernel) rfl, gt_mem 11 (by decide +kernel) rfl, kin_X10, tyX10_ok, by decide +kernel⟩
