/-! what is tried -/
def aSea (K V : gx_K) (m a n t : Int32) : Int32 := if gx_in a (nI (K 0 0)) = 0 then gUNK else if gx_wi n (nI 0) (nI 100) = 0 ∨ gx_wi t (nI 0) (nI 1) = 0 then gOUT else if t = 0 then nI (gx_sea K (gx_wn K V m n.toNatClampNeg) a.toNatClampNeg) else nI (gx_dep K (gx_wn K V m n.toNatClampNeg) a.toNatClampNeg)
def gx_dpt (K V : gx_K) (m : Int32) (k i : Nat) : Nat := gx_dep K (gx_wn K V m i) k
theorem gx_dpt_le {K V : gx_K} {m : Int32} (kw : gx_KW K) (vw : gx_VW K V) (k i : Nat) : gx_dpt K V m k i ≤ 594 := gx_dep_le kw (gx_wn_VW vw i) k
def aDeep (K V : gx_K) (m a n t : Int32) : Int32 := if gx_in a (nI (K 0 0)) = 0 then gUNK else if gx_wi n (nI 0) (nI 100) = 0 ∨ gx_wi t (nI 0) (nI 1) = 0 then gOUT else if t = 0 then nI (gx_arg (gx_dpt K V m a.toNatClampNeg) (n.toNatClampNeg + 1) - 1) else nI (gx_dpt K V m a.toNatClampNeg (gx_arg (gx_dpt K V m a.toNatClampNeg) (n.toNatClampNeg + 1) - 1))
/-- the boat b alone, n hours on -/
def gx_cm (K V : gx_K) (m : Int32) (b : Nat) : Nat → gx_K
  | 0 => V
  | n + 1 => gx_sail K (gx_wind K (gx_cm K V m b n) m) b
theorem gx_cm_VW {K V : gx_K} {m : Int32} {b : Nat} (kw : gx_KW K) (vw : gx_VW K V) (hb : b < K 0 3) : ∀ n, gx_VW K (gx_cm K V m b n)
  | 0 => vw
  | n + 1 => gx_sail_VW kw (gx_wind_VW (gx_cm_VW kw vw hb n)) hb
def aComes (K V : gx_K) (m a : Int32) : Int32 := if gx_in a (nI (K 0 3)) = 0 then gUNK else gx_first (fun i => gx_cm K V m a.toNatClampNeg i 4 a.toNatClampNeg = K 7 a.toNatClampNeg) 0 201
theorem gx_first_t {P : Nat → Prop} [DecidablePred P] {t k : Nat} (h : P t) : gx_first P t (k + 1) = nI t := if_pos h
theorem gx_first_f {P : Nat → Prop} [DecidablePred P] {t k : Nat} (h : ¬ P t) : gx_first P t (k + 1) = gx_first P (t + 1) k := if_neg h
/-- the first least: its number + 1 -/
def gx_argm (f : Nat → Nat) : Nat → Nat
  | 0 => 0
  | k + 1 => if gx_argm f k = 0 ∨ f k < f (gx_argm f k - 1) then k + 1 else gx_argm f k
theorem gx_argm_t {f : Nat → Nat} {k : Nat} (h : gx_argm f k = 0 ∨ f k < f (gx_argm f k - 1)) : gx_argm f (k + 1) = k + 1 := if_pos h
theorem gx_argm_f {f : Nat → Nat} {k : Nat} (h : ¬ (gx_argm f k = 0 ∨ f k < f (gx_argm f k - 1))) : gx_argm f (k + 1) = gx_argm f k := if_neg h
theorem gx_argm_le (f : Nat → Nat) : ∀ n, gx_argm f n ≤ n
  | 0 => Nat.le_refl _
  | n + 1 => by
    unfold gx_argm
    split
    · exact Nat.le_refl _
    · have := gx_argm_le f n; omega
def gx_lv (K V : gx_K) (t : Nat) : Nat := gx_slope K (gx_up V 1 t 0)
def gx_lva (f : Nat → Nat) (v : Nat) : Int32 := if v = 0 then -1 else nI (f (v - 1))
theorem gx_lva_s (f : Nat → Nat) (v : Nat) : gx_lva f (v + 1) = nI (f v) := rfl
theorem gx_lva_p {f : Nat → Nat} {v : Nat} (h : ¬ v = 0) : gx_lva f v = nI (f (v - 1)) := if_neg h
def aLeave (K V : gx_K) (a : Int32) : Int32 := if gx_wi a (nI 0) (nI 1) = 0 then gOUT else if a = 0 then gx_seat (gx_argm (gx_lv K V) (K 0 1)) else gx_lva (gx_lv K V) (gx_argm (gx_lv K V) (K 0 1))
theorem gx_up1_VW {K V : gx_K} {t v : Nat} (vw : gx_VW K V) (hv : v ≤ 99) : gx_VW K (gx_up V 1 t v) :=
  ⟨Nat.zero_le _, fun j hj => by
    by_cases e : j = t
    · subst e; rw [gx_up_eq]; exact hv
    · rw [gx_up_col e]; exact vw.2.1 j hj, fun j hj => by rw [gx_up_row (by decide)]; exact vw.2.2.1 j hj, fun j hj => by rw [gx_up_row (by decide)]; exact vw.2.2.2.1 j hj, fun j hj => by rw [gx_up_row (by decide)]; exact vw.2.2.2.2 j hj⟩
theorem gx_slope_le {K V : gx_K} (kw : gx_KW K) (vw : gx_VW K V) : gx_slope K V ≤ 594 := by
  unfold gx_slope
  split
  · omega
  · exact gx_un_le kw vw _
theorem gx_lv_le {K V : gx_K} (kw : gx_KW K) (vw : gx_VW K V) (t : Nat) : gx_lv K V t ≤ 594 := gx_slope_le kw (gx_up1_VW vw (Nat.zero_le _))
/-- a share: of x pence, dry the ground of the dry cells -/
def gx_dry (K V : gx_K) : Nat := gx_sum (fun x => if gx_dep K V x = 0 then K 1 x else 0) (K 0 0)
theorem gx_dry_le {K V : gx_K} (kw : gx_KW K) : gx_dry K V ≤ 600 := by
  have h := gx_sum_le (f := fun x => if gx_dep K V x = 0 then K 1 x else 0) (b := 60) (K 0 0) (fun k hk => by
    show (if gx_dep K V k = 0 then K 1 k else 0) ≤ 60
    split
    · exact kw.2.2.2.2.1 k hk
    · omega)
  have := kw.1
  unfold gx_dry
  omega
def gx_share (K V : gx_K) (p k : Nat) : Nat := if gx_dry K V = 0 ∨ 0 < gx_dep K V k then 0 else p * K 1 k / gx_dry K V
def gx_lf (K V : gx_K) (p : Nat) : Nat → Int32
  | 0 => nI p
  | k + 1 => gx_lf K V p k - nI (gx_share K V p k)
def aShare (K V : gx_K) (a b : Int32) : Int32 := if ¬ b = -1 ∧ gx_in b (nI (K 0 0)) = 0 then gUNK else if gx_wi a (nI 0) (nI 999) = 0 then gOUT else if b = -1 then gx_lf K V a.toNatClampNeg (K 0 0) else nI (gx_share K V a.toNatClampNeg b.toNatClampNeg)
/-- the odds of a calm -/
def gx_clm (q : Nat) : Nat → Nat
  | 0 => 1000000000
  | n + 1 => gx_clm q n * q / 100
theorem gx_clm_le {q : Nat} (h : q ≤ 100) : ∀ n, gx_clm q n ≤ 1000000000
  | 0 => Nat.le_refl _
  | n + 1 => by
    have ih := gx_clm_le h n
    show gx_clm q n * q / 100 ≤ _
    have : gx_clm q n * q ≤ 1000000000 * 100 := Nat.mul_le_mul ih h
    omega
def aCalm (a b : Int32) : Int32 := if gx_wi a (nI 0) (nI 60) = 0 ∨ gx_wi b (nI 0) (nI 100) = 0 then gOUT else nI (gx_clm b.toNatClampNeg a.toNatClampNeg)
theorem gx_lNt {n : Nat} (h : n < 2 ^ 63) : (lN n).toInt = (n : Int) := lg_ofNat_toInt (by omega)
theorem gx_ldiv {a d : Nat} (ha : a < 2 ^ 62) (h0 : 0 < d) (hd : d < 2 ^ 31) : lN a / lN d = lN (a / d) := Int64.toInt_inj.mp (by
  have hq : a / d ≤ a := Nat.div_le_self a d
  have hne : lN d ≠ -1 := fun e => by
    have h1 := congrArg Int64.toInt e
    rw [lN_toInt hd] at h1
    have h2 : (-1 : Int64).toInt = -1 := by decide
    omega
  rw [Int64.toInt_div_of_ne_right _ _ hne, gx_lNt (by omega), lN_toInt hd, gx_lNt (by omega)]
  exact Int.ofNat_tdiv a d)
set_option maxRecDepth 100000 in
set_option maxHeartbeats 4000000 in
theorem c_X9_sea {l : Launch} {G : gt_G} {n : Nat} {w : gt_W} {c : Nat} {K V : gx_K} {m : Int32} {hs : Nat → gx_K × Int32} {cnt : Nat} {im : Nat → Nat × (gx_K × Int32) × Nat} {sd : Nat} {x : Nat → Nat} {L fp : Nat} {Q : gx_K} (hX : gx_X w c K V m hs cnt im sd x L fp Q) (hW : gx_WF K V m hs cnt im sd x L fp Q) (a9 n9 t9 : Int32) : gt_D l G yX9_sea cX9_sea 5 (some .int) 4 n [.ref 1, .int a9, .int n9, .int t9] w (fun r w' => r = some (.int (aSea K V m a9 n9 t9)) ∧ gx_X w' c K V m hs cnt im sd x L fp Q ∧ ∀ a, 161 ≤ a → w' a = w a) := by
  obtain ⟨⟨hc, h11, ⟨c2, hc2, hne2, h12⟩, hfp⟩, hK, hV, hpast, him, hsd, htx, hQ⟩ := id hX
  obtain ⟨kw, vw, vd, hhr, hcnt, hhs, him2, hsd2, hxL, hfp2, qw⟩ := id hW
  have hcur : (some (Value.ref (w 1 1).toNatClampNeg) : Option Value) = some (Value.ref c) := by rw [h11, nI_clamp (by have := gt_isC_lt hc; omega)]
  refine gt_D_of (own := RX9) (nm := "sea") rfl rfl (by decide +kernel) (Nat.le_of_ble_eq_true rfl) ?_
  show gt_A _ _ _ _ _ _ _ _ _ _ _ [(0, .ref 1), (1, .int a9), (2, .int n9), (3, .int t9)] _ _
  refine ga_aload_n 0 dX9_sea_0 rfl ?_
  refine ga_get kf_X9_19 (sh1 _) hcur dX9_sea_1 ?_
  refine ga_iload_n 1 dX9_sea_4 rfl ?_
  refine ga_V1 km_X9_171 kv_X0_hasCell (c_X0_hasCell hc hK.1.1 a9) (shC hc _) rfl rfl (gt_rc0 (by decide)) (Nat.le_of_ble_eq_true rfl) dX9_sea_5 ?_
  refine ga_if_ne 14 dX9_sea_8 (by decide) (fun c_8 => ?_) (fun c_8 => ?_)
  · obtain ⟨k, hk, rfl⟩ := gx_in_of (by have := kw.1; have := kw.2.1; have := kw.2.2.1; have := kw.2.2.2.1; omega) c_8
    have ek : (nI k).toNatClampNeg = k := nI_clamp (by have := kw.1; have := kw.2.1; have := kw.2.2.1; have := kw.2.2.2.1; omega)
    refine ga_iload_n 2 dX9_sea_14 rfl ?_
    refine ga_iconst (nI 0) dX9_sea_15 (by decide) ?_
    refine ga_bipush (nI 100) dX9_sea_16 (by decide) ?_
    refine ga_S3 km_X9_82 kv_X9_within (c_X9_within n9 (nI 0) (nI 100)) (gt_rc0 (by decide)) (Nat.le_of_ble_eq_true rfl) dX9_sea_18 ?_
    refine ga_if_eq 33 dX9_sea_21 (by decide) (fun c_21 => ?_) (fun c_21 => ?_)
    · have hno : gx_wi n9 (nI 0) (nI 100) = 0 ∨ gx_wi t9 (nI 0) (nI 1) = 0 := Or.inl c_21
      refine ga_ldc kc_X9_86 dX9_sea_33 ?_
      exact gd_iret dX9_sea_35 ⟨gv (by unfold aSea; rw [if_neg c_8, if_pos hno]), hX, fun _ _ => rfl⟩
    · refine ga_iload_n 3 dX9_sea_24 rfl ?_
      refine ga_iconst (nI 0) dX9_sea_25 (by decide) ?_
      refine ga_iconst (nI 1) dX9_sea_26 (by decide) ?_
      refine ga_S3 km_X9_82 kv_X9_within (c_X9_within t9 (nI 0) (nI 1)) (gt_rc0 (by decide)) (Nat.le_of_ble_eq_true rfl) dX9_sea_27 ?_
      refine ga_if_ne 36 dX9_sea_30 (by decide) (fun c_30 => ?_) (fun c_30 => ?_)
      · have hyes : ¬ (gx_wi n9 (nI 0) (nI 100) = 0 ∨ gx_wi t9 (nI 0) (nI 1) = 0) := fun q => q.elim c_21 c_30
        obtain ⟨N, hNl, hN, rfl⟩ := gx_wi_of (by decide) (by decide) c_21
        have eN : (nI N).toNatClampNeg = N := nI_clamp (by omega)
        refine ga_aload_n 0 dX9_sea_36 rfl ?_
        refine ga_get kf_X9_33 (sh1 _) rfl dX9_sea_37 ?_
        refine ga_aload_n 0 dX9_sea_40 rfl ?_
        refine ga_get kf_X9_29 (sh1 _) rfl dX9_sea_41 ?_
        refine gd_V1 km_X9_257 kv_X8_copy (c_X8_copy isS25 isS20 (by omega)) (shS isS25 _) rfl rfl (gt_rc0 (by decide)) (Nat.le_of_ble_eq_true rfl) dX9_sea_44 (fun r_44 w_44 q_44 => ?_)
        obtain ⟨rfl, hF0, hcp⟩ := q_44
        have hT := hcp K V m kw hV
        have hX1 := gx_X_eq (fun a q1 q2 q3 => hF0 a q2) hX
        have hF : ∀ a, 161 ≤ a → w_44 a = w a := fun a ha => hF0 a (by omega)
        refine ga_iconst (nI 0) dX9_sea_47 (by decide) ?_
        refine gs_istore [(0, _), (1, _), (2, _), (3, _), (4, _)] dX9_sea_48 (by decide) rfl rfl ?_
        have loop : ∀ j t, t + j = N → ∀ w1 : gt_W, gx_X w1 c K V m hs cnt im sd x L fp Q → gx_St w1 25 K (gx_wn K V m t) m → (∀ a, 161 ≤ a → w1 a = w a) → gt_A l G RX9 "sea" cX9_sea 5 (some .int) (gt_rm 4 0 0) (gt_ZD G n (fun r w' => r = some (.int (aSea K V m (nI k) (nI N) t9)) ∧ gx_X w' c K V m hs cnt im sd x L fp Q ∧ ∀ a, 161 ≤ a → w' a = w a)) (n, 0, 0) 50 [(0, .ref 1), (1, .int (nI k)), (2, .int (nI N)), (3, .int t9), (4, .int (nI t))] [] (gt_enc w1) := by
          intro j
          induction j with
          | zero =>
            intro t ht w1 hX1 hT hF
            have et : t = N := by omega
            obtain ⟨⟨hc, h11, ⟨c2, hc2, hne2, h12⟩, hfp⟩, hK, hV, hpast, him, hsd, htx, hQ⟩ := id hX1
            have hcur : (some (Value.ref (w1 1 1).toNatClampNeg) : Option Value) = some (Value.ref c) := by rw [h11, nI_clamp (by have := gt_isC_lt hc; omega)]
            refine ga_iload 4 dX9_sea_50 rfl ?_
            refine ga_iload_n 2 dX9_sea_52 rfl ?_
            refine ga_icmp_ge 73 dX9_sea_53 (by decide) (fun c_53 => ?_) (fun c_53 => absurd (nI_le (by omega) (by omega)) c_53)
            refine ga_iload_n 3 dX9_sea_73 rfl ?_
            refine ga_if_ne 92 dX9_sea_74 (by decide) (fun c_74 => ?_) (fun c_74 => ?_)
            · refine ga_aload_n 0 dX9_sea_92 rfl ?_
              refine ga_get kf_X9_33 (sh1 _) rfl dX9_sea_93 ?_
              refine ga_aload_n 0 dX9_sea_96 rfl ?_
              refine ga_get kf_X9_19 (sh1 _) hcur dX9_sea_97 ?_
              refine ga_iload_n 1 dX9_sea_100 rfl ?_
              refine ga_V2 km_X9_184 kv_X8_depthAt (c_X8_depthAt hc hK kw isS25 hT (gx_wn_VW vw t) hk) (shS isS25 _) rfl rfl (gt_rc0 (by decide)) (Nat.le_of_ble_eq_true rfl) dX9_sea_101 ?_
              exact gd_iret dX9_sea_104 ⟨gv (by unfold aSea; rw [if_neg c_8, if_neg hyes, ek, eN, ← et]; first | exact (if_pos c_74).symm | exact (if_neg c_74).symm), hX1, hF⟩
            · refine ga_aload_n 0 dX9_sea_77 rfl ?_
              refine ga_get kf_X9_33 (sh1 _) rfl dX9_sea_78 ?_
              refine ga_aload_n 0 dX9_sea_81 rfl ?_
              refine ga_get kf_X9_19 (sh1 _) hcur dX9_sea_82 ?_
              refine ga_iload_n 1 dX9_sea_85 rfl ?_
              refine ga_V2 km_X9_180 kv_X8_seaAt (c_X8_seaAt hc hK kw isS25 hT (gx_wn_VW vw t) (by have := kw.1; omega)) (shS isS25 _) rfl rfl (gt_rc0 (by decide)) (Nat.le_of_ble_eq_true rfl) dX9_sea_86 ?_
              refine ga_goto 104 dX9_sea_89 (by decide) ?_
              exact gd_iret dX9_sea_104 ⟨gv (by unfold aSea; rw [if_neg c_8, if_neg hyes, ek, eN, ← et]; first | exact (if_pos c_74).symm | exact (if_neg c_74).symm), hX1, hF⟩
          | succ j ih =>
            intro t ht w1 hX1 hT hF
            obtain ⟨⟨hc, h11, ⟨c2, hc2, hne2, h12⟩, hfp⟩, hK, hV, hpast, him, hsd, htx, hQ⟩ := id hX1
            have hcur : (some (Value.ref (w1 1 1).toNatClampNeg) : Option Value) = some (Value.ref c) := by rw [h11, nI_clamp (by have := gt_isC_lt hc; omega)]
            refine ga_iload 4 dX9_sea_50 rfl ?_
            refine ga_iload_n 2 dX9_sea_52 rfl ?_
            refine ga_icmp_ge 73 dX9_sea_53 (by decide) (fun c_53 => absurd c_53 (nI_ge (by omega) (by omega))) (fun c_53 => ?_)
            refine ga_aload_n 0 dX9_sea_56 rfl ?_
            refine ga_get kf_X9_33 (sh1 _) rfl dX9_sea_57 ?_
            refine ga_aload_n 0 dX9_sea_60 rfl ?_
            refine ga_get kf_X9_19 (sh1 _) hcur dX9_sea_61 ?_
            refine gd_V1 km_X9_260 kv_X8_wind (c_X8_wind hc hK kw isS25 hT (gx_wn_VW vw t)) (shS isS25 _) rfl rfl (gt_rc0 (by decide)) (Nat.le_of_ble_eq_true rfl) dX9_sea_64 (fun r_64 w_64 q_64 => ?_)
            obtain ⟨rfl, hF1, hT⟩ := q_64
            have hX1 := gx_X_eq (fun a q1 q2 q3 => hF1 a q2) hX1
            have hF : ∀ a, 161 ≤ a → w_64 a = w a := fun a ha => (hF1 a (by omega)).trans (hF a ha)
            obtain ⟨⟨hc, h11, ⟨c2, hc2, hne2, h12⟩, hfp⟩, hK, hV, hpast, him, hsd, htx, hQ⟩ := id hX1
            have hcur : (some (Value.ref (w_64 1 1).toNatClampNeg) : Option Value) = some (Value.ref c) := by rw [h11, nI_clamp (by have := gt_isC_lt hc; omega)]
            refine gs_iincN 4 1 [(0, _), (1, _), (2, _), (3, _), (4, _)] dX9_sea_67 rfl (by decide) (by decide) rfl rfl ?_
            refine ga_goto 50 dX9_sea_70 (by decide) ?_
            exact ih (t + 1) (by omega) _ hX1 hT hF
        exact loop N 0 (by omega) _ hX1 hT hF
      · have hno : gx_wi n9 (nI 0) (nI 100) = 0 ∨ gx_wi t9 (nI 0) (nI 1) = 0 := Or.inr c_30
        refine ga_ldc kc_X9_86 dX9_sea_33 ?_
        exact gd_iret dX9_sea_35 ⟨gv (by unfold aSea; rw [if_neg c_8, if_pos hno]), hX, fun _ _ => rfl⟩
  · refine ga_ldc kc_X9_175 dX9_sea_11 ?_
    exact gd_iret dX9_sea_13 ⟨gv (by unfold aSea; rw [if_pos c_8]), hX, fun _ _ => rfl⟩
theorem gx_arg_pos (f : Nat → Nat) : ∀ {n : Nat}, 1 ≤ n → 1 ≤ gx_arg f n
  | 0, h => by omega
  | n + 1, _ => by
    unfold gx_arg
    split
    · omega
    · rename_i q
      rcases Nat.eq_zero_or_pos (gx_arg f n) with e | e
      · exact absurd (Or.inl e) q
      · exact e
set_option maxRecDepth 100000 in
set_option maxHeartbeats 4000000 in
theorem c_X9_deepest {l : Launch} {G : gt_G} {n : Nat} {w : gt_W} {c : Nat} {K V : gx_K} {m : Int32} {hs : Nat → gx_K × Int32} {cnt : Nat} {im : Nat → Nat × (gx_K × Int32) × Nat} {sd : Nat} {x : Nat → Nat} {L fp : Nat} {Q : gx_K} (hX : gx_X w c K V m hs cnt im sd x L fp Q) (hW : gx_WF K V m hs cnt im sd x L fp Q) (a9 n9 t9 : Int32) : gt_D l G yX9_deepest cX9_deepest 8 (some .int) 4 n [.ref 1, .int a9, .int n9, .int t9] w (fun r w' => r = some (.int (aDeep K V m a9 n9 t9)) ∧ gx_X w' c K V m hs cnt im sd x L fp Q ∧ ∀ a, 161 ≤ a → w' a = w a) := by
  obtain ⟨⟨hc, h11, ⟨c2, hc2, hne2, h12⟩, hfp⟩, hK, hV, hpast, him, hsd, htx, hQ⟩ := id hX
  obtain ⟨kw, vw, vd, hhr, hcnt, hhs, him2, hsd2, hxL, hfp2, qw⟩ := id hW
  have hcur : (some (Value.ref (w 1 1).toNatClampNeg) : Option Value) = some (Value.ref c) := by rw [h11, nI_clamp (by have := gt_isC_lt hc; omega)]
  refine gt_D_of (own := RX9) (nm := "deepest") rfl rfl (by decide +kernel) (Nat.le_of_ble_eq_true rfl) ?_
  show gt_A _ _ _ _ _ _ _ _ _ _ _ [(0, .ref 1), (1, .int a9), (2, .int n9), (3, .int t9)] _ _
  refine ga_aload_n 0 dX9_deepest_0 rfl ?_
  refine ga_get kf_X9_19 (sh1 _) hcur dX9_deepest_1 ?_
  refine ga_iload_n 1 dX9_deepest_4 rfl ?_
  refine ga_V1 km_X9_171 kv_X0_hasCell (c_X0_hasCell hc hK.1.1 a9) (shC hc _) rfl rfl (gt_rc0 (by decide)) (Nat.le_of_ble_eq_true rfl) dX9_deepest_5 ?_
  refine ga_if_ne 14 dX9_deepest_8 (by decide) (fun c_8 => ?_) (fun c_8 => ?_)
  · obtain ⟨k, hk, rfl⟩ := gx_in_of (by have := kw.1; have := kw.2.1; have := kw.2.2.1; have := kw.2.2.2.1; omega) c_8
    have ek : (nI k).toNatClampNeg = k := nI_clamp (by have := kw.1; have := kw.2.1; have := kw.2.2.1; have := kw.2.2.2.1; omega)
    refine ga_iload_n 2 dX9_deepest_14 rfl ?_
    refine ga_iconst (nI 0) dX9_deepest_15 (by decide) ?_
    refine ga_bipush (nI 100) dX9_deepest_16 (by decide) ?_
    refine ga_S3 km_X9_82 kv_X9_within (c_X9_within n9 (nI 0) (nI 100)) (gt_rc0 (by decide)) (Nat.le_of_ble_eq_true rfl) dX9_deepest_18 ?_
    refine ga_if_eq 33 dX9_deepest_21 (by decide) (fun c_21 => ?_) (fun c_21 => ?_)
    · have hno : gx_wi n9 (nI 0) (nI 100) = 0 ∨ gx_wi t9 (nI 0) (nI 1) = 0 := Or.inl c_21
      refine ga_ldc kc_X9_86 dX9_deepest_33 ?_
      exact gd_iret dX9_deepest_35 ⟨gv (by unfold aDeep; rw [if_neg c_8, if_pos hno]), hX, fun _ _ => rfl⟩
    · refine ga_iload_n 3 dX9_deepest_24 rfl ?_
      refine ga_iconst (nI 0) dX9_deepest_25 (by decide) ?_
      refine ga_iconst (nI 1) dX9_deepest_26 (by decide) ?_
      refine ga_S3 km_X9_82 kv_X9_within (c_X9_within t9 (nI 0) (nI 1)) (gt_rc0 (by decide)) (Nat.le_of_ble_eq_true rfl) dX9_deepest_27 ?_
      refine ga_if_ne 36 dX9_deepest_30 (by decide) (fun c_30 => ?_) (fun c_30 => ?_)
      · have hyes : ¬ (gx_wi n9 (nI 0) (nI 100) = 0 ∨ gx_wi t9 (nI 0) (nI 1) = 0) := fun q => q.elim c_21 c_30
        obtain ⟨N, hNl, hN, rfl⟩ := gx_wi_of (by decide) (by decide) c_21
        have eN : (nI N).toNatClampNeg = N := nI_clamp (by omega)
        refine ga_aload_n 0 dX9_deepest_36 rfl ?_
        refine ga_get kf_X9_33 (sh1 _) rfl dX9_deepest_37 ?_
        refine ga_aload_n 0 dX9_deepest_40 rfl ?_
        refine ga_get kf_X9_29 (sh1 _) rfl dX9_deepest_41 ?_
        refine gd_V1 km_X9_257 kv_X8_copy (c_X8_copy isS25 isS20 (by omega)) (shS isS25 _) rfl rfl (gt_rc0 (by decide)) (Nat.le_of_ble_eq_true rfl) dX9_deepest_44 (fun r_44 w_44 q_44 => ?_)
        obtain ⟨rfl, hF0, hcp⟩ := q_44
        have hT := hcp K V m kw hV
        have hX1 := gx_X_eq (fun a q1 q2 q3 => hF0 a q2) hX
        have hF : ∀ a, 161 ≤ a → w_44 a = w a := fun a ha => hF0 a (by omega)
        obtain ⟨⟨hc, h11, ⟨c2, hc2, hne2, h12⟩, hfp⟩, hK, hV, hpast, him, hsd, htx, hQ⟩ := id hX1
        have hcur : (some (Value.ref (w_44 1 1).toNatClampNeg) : Option Value) = some (Value.ref c) := by rw [h11, nI_clamp (by have := gt_isC_lt hc; omega)]
        refine ga_iconst (nI 0) dX9_deepest_47 (by decide) ?_
        refine gs_istore [(0, _), (1, _), (2, _), (3, _), (4, _)] dX9_deepest_48 (by decide) rfl rfl ?_
        refine ga_aload_n 0 dX9_deepest_50 rfl ?_
        refine ga_get kf_X9_33 (sh1 _) rfl dX9_deepest_51 ?_
        refine ga_aload_n 0 dX9_deepest_54 rfl ?_
        refine ga_get kf_X9_19 (sh1 _) hcur dX9_deepest_55 ?_
        refine ga_iload_n 1 dX9_deepest_58 rfl ?_
        refine ga_V2 km_X9_184 kv_X8_depthAt (c_X8_depthAt hc hK kw isS25 hT vw hk) (shS isS25 _) rfl rfl (gt_rc0 (by decide)) (Nat.le_of_ble_eq_true rfl) dX9_deepest_59 ?_
        refine gs_istore [(0, _), (1, _), (2, _), (3, _), (4, _), (5, _)] dX9_deepest_62 (by decide) rfl rfl ?_
        refine ga_iconst (nI 1) dX9_deepest_64 (by decide) ?_
        refine gs_istore [(0, _), (1, _), (2, _), (3, _), (4, _), (5, _), (6, _)] dX9_deepest_65 (by decide) rfl rfl ?_
        have loop : ∀ j t, t + j = N + 1 → 1 ≤ t → ∀ w1 : gt_W, gx_X w1 c K V m hs cnt im sd x L fp Q → gx_St w1 25 K (gx_wn K V m (t - 1)) m → (∀ a, 161 ≤ a → w1 a = w a) → gt_A l G RX9 "deepest" cX9_deepest 8 (some .int) (gt_rm 4 0 0) (gt_ZD G n (fun r w' => r = some (.int (aDeep K V m (nI k) (nI N) t9)) ∧ gx_X w' c K V m hs cnt im sd x L fp Q ∧ ∀ a, 161 ≤ a → w' a = w a)) (n, 0, 0) 67 [(0, .ref 1), (1, .int (nI k)), (2, .int (nI N)), (3, .int t9), (4, .int (nI (gx_arg (gx_dpt K V m k) t - 1))), (5, .int (nI (gx_dpt K V m k (gx_arg (gx_dpt K V m k) t - 1)))), (6, .int (nI t))] [] (gt_enc w1) := by
          intro j
          induction j with
          | zero =>
            intro t ht ht1 w1 hX1 hT hF
            have et : t = N + 1 := by omega
            obtain ⟨⟨hc, h11, ⟨c2, hc2, hne2, h12⟩, hfp⟩, hK, hV, hpast, him, hsd, htx, hQ⟩ := id hX1
            have hcur : (some (Value.ref (w1 1 1).toNatClampNeg) : Option Value) = some (Value.ref c) := by rw [h11, nI_clamp (by have := gt_isC_lt hc; omega)]
            refine ga_iload 6 dX9_deepest_67 rfl ?_
            refine ga_iload_n 2 dX9_deepest_69 rfl ?_
            refine ga_icmp_gt 119 dX9_deepest_70 (by decide) (fun c_70 => ?_) (fun c_70 => absurd (nI_lt (by omega) (by omega)) c_70)
            refine ga_iload_n 3 dX9_deepest_119 rfl ?_
            refine ga_if_ne 128 dX9_deepest_120 (by decide) (fun c_120 => ?_) (fun c_120 => ?_)
            · refine ga_iload 5 dX9_deepest_128 rfl ?_
              exact gd_iret dX9_deepest_130 ⟨gv (by unfold aDeep; rw [if_neg c_8, if_neg hyes, ek, eN, ← et]; first | exact (if_pos c_120).symm | exact (if_neg c_120).symm), hX1, hF⟩
            · refine ga_iload 4 dX9_deepest_123 rfl ?_
              refine ga_goto 130 dX9_deepest_125 (by decide) ?_
              exact gd_iret dX9_deepest_130 ⟨gv (by unfold aDeep; rw [if_neg c_8, if_neg hyes, ek, eN, ← et]; first | exact (if_pos c_120).symm | exact (if_neg c_120).symm), hX1, hF⟩
          | succ j ih =>
            intro t ht ht1 w1 hX1 hT hF
            obtain ⟨⟨hc, h11, ⟨c2, hc2, hne2, h12⟩, hfp⟩, hK, hV, hpast, him, hsd, htx, hQ⟩ := id hX1
            have hcur : (some (Value.ref (w1 1 1).toNatClampNeg) : Option Value) = some (Value.ref c) := by rw [h11, nI_clamp (by have := gt_isC_lt hc; omega)]
            refine ga_iload 6 dX9_deepest_67 rfl ?_
            refine ga_iload_n 2 dX9_deepest_69 rfl ?_
            refine ga_icmp_gt 119 dX9_deepest_70 (by decide) (fun c_70 => absurd c_70 (nI_nlt (by omega) (by omega))) (fun c_70 => ?_)
            refine ga_aload_n 0 dX9_deepest_73 rfl ?_
            refine ga_get kf_X9_33 (sh1 _) rfl dX9_deepest_74 ?_
            refine ga_aload_n 0 dX9_deepest_77 rfl ?_
            refine ga_get kf_X9_19 (sh1 _) hcur dX9_deepest_78 ?_
            refine gd_V1 km_X9_260 kv_X8_wind (c_X8_wind hc hK kw isS25 hT (gx_wn_VW vw (t - 1))) (shS isS25 _) rfl rfl (gt_rc0 (by decide)) (Nat.le_of_ble_eq_true rfl) dX9_deepest_81 (fun r_81 w_81 q_81 => ?_)
            obtain ⟨rfl, hF1, hT⟩ := q_81
            have hX1 := gx_X_eq (fun a q1 q2 q3 => hF1 a q2) hX1
            have hF : ∀ a, 161 ≤ a → w_81 a = w a := fun a ha => (hF1 a (by omega)).trans (hF a ha)
            obtain ⟨⟨hc, h11, ⟨c2, hc2, hne2, h12⟩, hfp⟩, hK, hV, hpast, him, hsd, htx, hQ⟩ := id hX1
            have hcur : (some (Value.ref (w_81 1 1).toNatClampNeg) : Option Value) = some (Value.ref c) := by rw [h11, nI_clamp (by have := gt_isC_lt hc; omega)]
            refine ga_aload_n 0 dX9_deepest_84 rfl ?_
            refine ga_get kf_X9_33 (sh1 _) rfl dX9_deepest_85 ?_
            refine ga_aload_n 0 dX9_deepest_88 rfl ?_
            refine ga_get kf_X9_19 (sh1 _) hcur dX9_deepest_89 ?_
            refine ga_iload_n 1 dX9_deepest_92 rfl ?_
            have e9 : gx_dep K (gx_wind K (gx_wn K V m (t - 1)) m) k = gx_dpt K V m k t := by obtain ⟨u, rfl⟩ : ∃ u, t = u + 1 := ⟨t - 1, by omega⟩; rfl
            refine ga_V2 km_X9_184 kv_X8_depthAt (c_X8_depthAt hc hK kw isS25 hT (gx_wind_VW (gx_wn_VW vw (t - 1))) hk) (shS isS25 _) rfl rfl (gt_rc0 (by decide)) (Nat.le_of_ble_eq_true rfl) dX9_deepest_93 ?_
            refine ga_top _ (congrArg nI e9) ?_
            refine gs_istore [(0, _), (1, _), (2, _), (3, _), (4, _), (5, _), (6, _), (7, _)] dX9_deepest_96 (by decide) rfl rfl ?_
            refine ga_iload 7 dX9_deepest_98 rfl ?_
            refine ga_iload 5 dX9_deepest_100 rfl ?_
            refine ga_icmp_le 113 dX9_deepest_102 (by decide) (fun c_102 => ?_) (fun c_102 => ?_)
            · refine gs_iincN 6 1 [(0, _), (1, _), (2, _), (3, _), (4, _), (5, _), (6, _), (7, _)] dX9_deepest_113 rfl (by decide) (by decide) rfl rfl ?_
              refine ga_goto 67 dX9_deepest_116 (by decide) ?_
              refine ga_take 7 ?_
              have hT9 : gx_St w_81 25 K (gx_wn K V m (t + 1 - 1)) m := by
                obtain ⟨u, rfl⟩ : ∃ u, t = u + 1 := ⟨t - 1, by omega⟩
                exact hT
              have h9 := ih (t + 1) (by omega) (by omega) _ hX1 hT9 hF
              have hle1 := gx_dpt_le (m := m) kw vw k t
              have hle2 := gx_dpt_le (m := m) kw vw k (gx_arg (gx_dpt K V m k) t - 1)
              first
                | (have e : gx_arg (gx_dpt K V m k) (t + 1) = gx_arg (gx_dpt K V m k) t := gx_arg_f (fun q => q.elim (fun q => by have := gx_arg_pos (gx_dpt K V m k) (n := t) (by omega); omega) (fun q => absurd q (Nat.not_lt.mpr ((nI_leI (by omega) (by omega)).mp c_102))))
                   rw [e] at h9
                   exact h9)
                | (have e : gx_arg (gx_dpt K V m k) (t + 1) = t + 1 := gx_arg_t (Or.inr (by rcases Nat.lt_or_ge (gx_dpt K V m k (gx_arg (gx_dpt K V m k) t - 1)) (gx_dpt K V m k t) with q | q; exact q; exact absurd (nI_le q (by omega)) c_102))
                   rw [e] at h9
                   exact h9)
            · refine ga_iload 7 dX9_deepest_105 rfl ?_
              refine gs_istore [(0, _), (1, _), (2, _), (3, _), (4, _), (5, _), (6, _), (7, _)] dX9_deepest_107 (by decide) rfl rfl ?_
              refine ga_iload 6 dX9_deepest_109 rfl ?_
              refine gs_istore [(0, _), (1, _), (2, _), (3, _), (4, _), (5, _), (6, _), (7, _)] dX9_deepest_111 (by decide) rfl rfl ?_
              refine gs_iincN 6 1 [(0, _), (1, _), (2, _), (3, _), (4, _), (5, _), (6, _), (7, _)] dX9_deepest_113 rfl (by decide) (by decide) rfl rfl ?_
              refine ga_goto 67 dX9_deepest_116 (by decide) ?_
              refine ga_take 7 ?_
              have hT9 : gx_St w_81 25 K (gx_wn K V m (t + 1 - 1)) m := by
                obtain ⟨u, rfl⟩ : ∃ u, t = u + 1 := ⟨t - 1, by omega⟩
                exact hT
              have h9 := ih (t + 1) (by omega) (by omega) _ hX1 hT9 hF
              have hle1 := gx_dpt_le (m := m) kw vw k t
              have hle2 := gx_dpt_le (m := m) kw vw k (gx_arg (gx_dpt K V m k) t - 1)
              first
                | (have e : gx_arg (gx_dpt K V m k) (t + 1) = gx_arg (gx_dpt K V m k) t := gx_arg_f (fun q => q.elim (fun q => by have := gx_arg_pos (gx_dpt K V m k) (n := t) (by omega); omega) (fun q => absurd q (Nat.not_lt.mpr ((nI_leI (by omega) (by omega)).mp c_102))))
                   rw [e] at h9
                   exact h9)
                | (have e : gx_arg (gx_dpt K V m k) (t + 1) = t + 1 := gx_arg_t (Or.inr (by rcases Nat.lt_or_ge (gx_dpt K V m k (gx_arg (gx_dpt K V m k) t - 1)) (gx_dpt K V m k t) with q | q; exact q; exact absurd (nI_le q (by omega)) c_102))
                   rw [e] at h9
                   exact h9)
        have h9 := loop N 1 (by omega) (by omega) _ hX1 hT hF
        rw [show gx_arg (gx_dpt K V m k) 1 = 1 from gx_arg_t (Or.inl rfl)] at h9
        exact h9
      · have hno : gx_wi n9 (nI 0) (nI 100) = 0 ∨ gx_wi t9 (nI 0) (nI 1) = 0 := Or.inr c_30
        refine ga_ldc kc_X9_86 dX9_deepest_33 ?_
        exact gd_iret dX9_deepest_35 ⟨gv (by unfold aDeep; rw [if_neg c_8, if_pos hno]), hX, fun _ _ => rfl⟩
  · refine ga_ldc kc_X9_175 dX9_deepest_11 ?_
    exact gd_iret dX9_deepest_13 ⟨gv (by unfold aDeep; rw [if_pos c_8]), hX, fun _ _ => rfl⟩
set_option maxRecDepth 100000 in
set_option maxHeartbeats 4000000 in
theorem c_X9_comes {l : Launch} {G : gt_G} {n : Nat} {w : gt_W} {c : Nat} {K V : gx_K} {m : Int32} {hs : Nat → gx_K × Int32} {cnt : Nat} {im : Nat → Nat × (gx_K × Int32) × Nat} {sd : Nat} {x : Nat → Nat} {L fp : Nat} {Q : gx_K} (hX : gx_X w c K V m hs cnt im sd x L fp Q) (hW : gx_WF K V m hs cnt im sd x L fp Q) (a9 : Int32) : gt_D l G yX9_comes cX9_comes 3 (some .int) 5 n [.ref 1, .int a9] w (fun r w' => r = some (.int (aComes K V m a9)) ∧ gx_X w' c K V m hs cnt im sd x L fp Q ∧ ∀ a, 161 ≤ a → w' a = w a) := by
  obtain ⟨⟨hc, h11, ⟨c2, hc2, hne2, h12⟩, hfp⟩, hK, hV, hpast, him, hsd, htx, hQ⟩ := id hX
  obtain ⟨kw, vw, vd, hhr, hcnt, hhs, him2, hsd2, hxL, hfp2, qw⟩ := id hW
  have hcur : (some (Value.ref (w 1 1).toNatClampNeg) : Option Value) = some (Value.ref c) := by rw [h11, nI_clamp (by have := gt_isC_lt hc; omega)]
  refine gt_D_of (own := RX9) (nm := "comes") rfl rfl (by decide +kernel) (Nat.le_of_ble_eq_true rfl) ?_
  show gt_A _ _ _ _ _ _ _ _ _ _ _ [(0, .ref 1), (1, .int a9)] _ _
  refine ga_aload_n 0 dX9_comes_0 rfl ?_
  refine ga_get kf_X9_19 (sh1 _) hcur dX9_comes_1 ?_
  refine ga_iload_n 1 dX9_comes_4 rfl ?_
  refine ga_V1 km_X9_220 kv_X0_hasBoat (c_X0_hasBoat hc hK.1.2.2.2 a9) (shC hc _) rfl rfl (gt_rc0 (by decide)) (Nat.le_of_ble_eq_true rfl) dX9_comes_5 ?_
  refine ga_if_ne 14 dX9_comes_8 (by decide) (fun c_8 => ?_) (fun c_8 => ?_)
  · obtain ⟨k, hk, rfl⟩ := gx_in_of (by have := kw.1; have := kw.2.1; have := kw.2.2.1; have := kw.2.2.2.1; omega) c_8
    have ek : (nI k).toNatClampNeg = k := nI_clamp (by have := kw.1; have := kw.2.1; have := kw.2.2.1; have := kw.2.2.2.1; omega)
    refine ga_aload_n 0 dX9_comes_14 rfl ?_
    refine ga_get kf_X9_33 (sh1 _) rfl dX9_comes_15 ?_
    refine ga_aload_n 0 dX9_comes_18 rfl ?_
    refine ga_get kf_X9_29 (sh1 _) rfl dX9_comes_19 ?_
    refine gd_V1 km_X9_257 kv_X8_copy (c_X8_copy isS25 isS20 (by omega)) (shS isS25 _) rfl rfl (gt_rc0 (by decide)) (Nat.le_of_ble_eq_true rfl) dX9_comes_22 (fun r_22 w_22 q_22 => ?_)
    obtain ⟨rfl, hF0, hcp⟩ := q_22
    have hT := hcp K V m kw hV
    have hX1 := gx_X_eq (fun a q1 q2 q3 => hF0 a q2) hX
    have hF : ∀ a, 161 ≤ a → w_22 a = w a := fun a ha => hF0 a (by omega)
    refine ga_iconst (nI 0) dX9_comes_25 (by decide) ?_
    refine gs_istore_n [(0, _), (1, _), (2, _)] dX9_comes_26 (by decide) rfl rfl ?_
    have loop : ∀ j t, t + j = 201 → gx_first (fun i => gx_cm K V m k i 4 k = K 7 k) 0 201 = gx_first (fun i => gx_cm K V m k i 4 k = K 7 k) t j → ∀ w1 : gt_W, gx_X w1 c K V m hs cnt im sd x L fp Q → gx_St w1 25 K (gx_cm K V m k t) m → (∀ a, 161 ≤ a → w1 a = w a) → gt_A l G RX9 "comes" cX9_comes 3 (some .int) (gt_rm 5 0 0) (gt_ZD G n (fun r w' => r = some (.int (aComes K V m (nI k))) ∧ gx_X w' c K V m hs cnt im sd x L fp Q ∧ ∀ a, 161 ≤ a → w' a = w a)) (n, 0, 0) 27 [(0, .ref 1), (1, .int (nI k)), (2, .int (nI t))] [] (gt_enc w1) := by
      intro j
      induction j with
      | zero =>
        intro t ht hA w1 hX1 hT hF
        have et : t = 201 := by omega
        obtain ⟨⟨hc, h11, ⟨c2, hc2, hne2, h12⟩, hfp⟩, hK, hV, hpast, him, hsd, htx, hQ⟩ := id hX1
        have hcur : (some (Value.ref (w1 1 1).toNatClampNeg) : Option Value) = some (Value.ref c) := by rw [h11, nI_clamp (by have := gt_isC_lt hc; omega)]
        refine ga_iload_n 2 dX9_comes_27 rfl ?_
        refine ga_sipush (nI 200) dX9_comes_28 (by decide) ?_
        refine ga_icmp_gt 86 dX9_comes_31 (by decide) (fun c_31 => ?_) (fun c_31 => absurd (nI_lt (by omega) (by omega)) c_31)
        refine ga_iconst ((-1)) dX9_comes_86 (by decide) ?_
        exact gd_iret dX9_comes_87 ⟨gv (by unfold aComes; rw [if_neg c_8, ek, hA]; rfl), hX1, hF⟩
      | succ j ih =>
        intro t ht hA w1 hX1 hT hF
        obtain ⟨⟨hc, h11, ⟨c2, hc2, hne2, h12⟩, hfp⟩, hK, hV, hpast, him, hsd, htx, hQ⟩ := id hX1
        have hcur : (some (Value.ref (w1 1 1).toNatClampNeg) : Option Value) = some (Value.ref c) := by rw [h11, nI_clamp (by have := gt_isC_lt hc; omega)]
        have hcw := gx_cm_VW (m := m) kw vw hk t
        refine ga_iload_n 2 dX9_comes_27 rfl ?_
        refine ga_sipush (nI 200) dX9_comes_28 (by decide) ?_
        refine ga_icmp_gt 86 dX9_comes_31 (by decide) (fun c_31 => absurd c_31 (nI_nlt (by omega) (by omega))) (fun c_31 => ?_)
        refine ga_aload_n 0 dX9_comes_34 rfl ?_
        refine ga_get kf_X9_33 (sh1 _) rfl dX9_comes_35 ?_
        refine ga_get kf_X9_226 (shS isS25 _) rfl dX9_comes_38 ?_
        refine ga_iload_n 1 dX9_comes_41 rfl ?_
        refine gl_S4 isS25 hT kw hk dX9_comes_42 ?_
        refine ga_aload_n 0 dX9_comes_43 rfl ?_
        refine ga_get kf_X9_19 (sh1 _) hcur dX9_comes_44 ?_
        refine ga_get kf_X9_232 (shC hc _) rfl dX9_comes_47 ?_
        refine ga_iload_n 1 dX9_comes_50 rfl ?_
        refine gl_C7 hc hK kw hk dX9_comes_51 ?_
        refine ga_icmp_ne 57 dX9_comes_52 (by decide) (fun c_52 => ?_) (fun c_52 => ?_)
        · have hz : ¬ gx_cm K V m k t 4 k = K 7 k := fun q => c_52 (by rw [q])
          refine ga_aload_n 0 dX9_comes_57 rfl ?_
          refine ga_get kf_X9_33 (sh1 _) rfl dX9_comes_58 ?_
          refine ga_aload_n 0 dX9_comes_61 rfl ?_
          refine ga_get kf_X9_19 (sh1 _) hcur dX9_comes_62 ?_
          refine gd_V1 km_X9_260 kv_X8_wind (c_X8_wind hc hK kw isS25 hT hcw) (shS isS25 _) rfl rfl (gt_rc0 (by decide)) (Nat.le_of_ble_eq_true rfl) dX9_comes_65 (fun r_65 w_65 q_65 => ?_)
          obtain ⟨rfl, hF1, hT⟩ := q_65
          have hX1 := gx_X_eq (fun a q1 q2 q3 => hF1 a q2) hX1
          have hF : ∀ a, 161 ≤ a → w_65 a = w a := fun a ha => (hF1 a (by omega)).trans (hF a ha)
          obtain ⟨⟨hc, h11, ⟨c2, hc2, hne2, h12⟩, hfp⟩, hK, hV, hpast, him, hsd, htx, hQ⟩ := id hX1
          have hcur : (some (Value.ref (w_65 1 1).toNatClampNeg) : Option Value) = some (Value.ref c) := by rw [h11, nI_clamp (by have := gt_isC_lt hc; omega)]
          refine ga_aload_n 0 dX9_comes_68 rfl ?_
          refine ga_get kf_X9_33 (sh1 _) rfl dX9_comes_69 ?_
          refine ga_aload_n 0 dX9_comes_72 rfl ?_
          refine ga_get kf_X9_19 (sh1 _) hcur dX9_comes_73 ?_
          refine ga_iload_n 1 dX9_comes_76 rfl ?_
          refine gd_V2 km_X9_263 kv_X8_sail (c_X8_sail hc hK kw isS25 hT (gx_wind_VW hcw) hk) (shS isS25 _) rfl rfl (gt_rc0 (by decide)) (Nat.le_of_ble_eq_true rfl) dX9_comes_77 (fun r_77 w_77 q_77 => ?_)
          obtain ⟨rfl, hF2, hT⟩ := q_77
          have hX1 := gx_X_eq (fun a q1 q2 q3 => hF2 a q2) hX1
          have hF : ∀ a, 161 ≤ a → w_77 a = w a := fun a ha => (hF2 a (by omega)).trans (hF a ha)
          refine gs_iincN 2 1 [(0, _), (1, _), (2, _)] dX9_comes_80 rfl (by decide) (by decide) rfl rfl ?_
          refine ga_goto 27 dX9_comes_83 (by decide) ?_
          exact ih (t + 1) (by omega) (hA.trans (gx_first_f (P := fun i => gx_cm K V m k i 4 k = K 7 k) hz)) _ hX1 hT hF
        · have hz : gx_cm K V m k t 4 k = K 7 k := (nI_eq (by have := hcw.2.2.2.2 k hk; have := kw.1; omega) (by have := kw.2.2.2.2.2.2.2.2.2.2.1 k hk; have := kw.1; omega)).mp c_52
          refine ga_iload_n 2 dX9_comes_55 rfl ?_
          exact gd_iret dX9_comes_56 ⟨gv (by unfold aComes; rw [if_neg c_8, ek, hA]; exact (gx_first_t (P := fun i => gx_cm K V m k i 4 k = K 7 k) hz).symm), hX1, hF⟩
    exact loop 201 0 (by omega) rfl _ hX1 hT hF
  · refine ga_ldc kc_X9_175 dX9_comes_11 ?_
    exact gd_iret dX9_comes_13 ⟨gv (by unfold aComes; rw [if_pos c_8]), hX, fun _ _ => rfl⟩
set_option maxRecDepth 100000 in
set_option maxHeartbeats 4000000 in
theorem c_X9_leave {l : Launch} {G : gt_G} {n : Nat} {w : gt_W} {c : Nat} {K V : gx_K} {m : Int32} {hs : Nat → gx_K × Int32} {cnt : Nat} {im : Nat → Nat × (gx_K × Int32) × Nat} {sd : Nat} {x : Nat → Nat} {L fp : Nat} {Q : gx_K} (hX : gx_X w c K V m hs cnt im sd x L fp Q) (hW : gx_WF K V m hs cnt im sd x L fp Q) (a9 : Int32) : gt_D l G yX9_leave cX9_leave 6 (some .int) 6 n [.ref 1, .int a9] w (fun r w' => r = some (.int (aLeave K V a9)) ∧ gx_X w' c K V m hs cnt im sd x L fp Q ∧ ∀ a, 161 ≤ a → w' a = w a) := by
  obtain ⟨⟨hc, h11, ⟨c2, hc2, hne2, h12⟩, hfp⟩, hK, hV, hpast, him, hsd, htx, hQ⟩ := id hX
  obtain ⟨kw, vw, vd, hhr, hcnt, hhs, him2, hsd2, hxL, hfp2, qw⟩ := id hW
  have hcur : (some (Value.ref (w 1 1).toNatClampNeg) : Option Value) = some (Value.ref c) := by rw [h11, nI_clamp (by have := gt_isC_lt hc; omega)]
  refine gt_D_of (own := RX9) (nm := "leave") rfl rfl (by decide +kernel) (Nat.le_of_ble_eq_true rfl) ?_
  show gt_A _ _ _ _ _ _ _ _ _ _ _ [(0, .ref 1), (1, .int a9)] _ _
  refine ga_iload_n 1 dX9_leave_0 rfl ?_
  refine ga_iconst (nI 0) dX9_leave_1 (by decide) ?_
  refine ga_iconst (nI 1) dX9_leave_2 (by decide) ?_
  refine ga_S3 km_X9_82 kv_X9_within (c_X9_within a9 (nI 0) (nI 1)) (gt_rc0 (by decide)) (Nat.le_of_ble_eq_true rfl) dX9_leave_3 ?_
  refine ga_if_ne 12 dX9_leave_6 (by decide) (fun c_6 => ?_) (fun c_6 => ?_)
  · refine ga_iconst ((-1)) dX9_leave_12 (by decide) ?_
    refine gs_istore_n [(0, _), (1, _), (2, _)] dX9_leave_13 (by decide) rfl rfl ?_
    refine ga_iconst ((-1)) dX9_leave_14 (by decide) ?_
    refine gs_istore_n [(0, _), (1, _), (2, _), (3, _)] dX9_leave_15 (by decide) rfl rfl ?_
    refine ga_iconst (nI 0) dX9_leave_16 (by decide) ?_
    refine gs_istore [(0, _), (1, _), (2, _), (3, _), (4, _)] dX9_leave_17 (by decide) rfl rfl ?_
    have loop : ∀ j t, t + j = K 0 1 → ∀ w1 : gt_W, gx_X w1 c K V m hs cnt im sd x L fp Q → (∀ a, 161 ≤ a → w1 a = w a) → gt_A l G RX9 "leave" cX9_leave 6 (some .int) (gt_rm 6 0 0) (gt_ZD G n (fun r w' => r = some (.int (aLeave K V a9)) ∧ gx_X w' c K V m hs cnt im sd x L fp Q ∧ ∀ a, 161 ≤ a → w' a = w a)) (n, 0, 0) 19 [(0, .ref 1), (1, .int a9), (2, .int (gx_seat (gx_argm (gx_lv K V) t))), (3, .int (gx_lva (gx_lv K V) (gx_argm (gx_lv K V) t))), (4, .int (nI t))] [] (gt_enc w1) := by
      intro j
      induction j with
      | zero =>
        intro t ht w1 hX1 hF
        have et : t = K 0 1 := by omega
        obtain ⟨⟨hc, h11, ⟨c2, hc2, hne2, h12⟩, hfp⟩, hK, hV, hpast, him, hsd, htx, hQ⟩ := id hX1
        have hcur : (some (Value.ref (w1 1 1).toNatClampNeg) : Option Value) = some (Value.ref c) := by rw [h11, nI_clamp (by have := gt_isC_lt hc; omega)]
        refine ga_iload 4 dX9_leave_19 rfl ?_
        refine ga_aload_n 0 dX9_leave_21 rfl ?_
        refine ga_get kf_X9_19 (sh1 _) hcur dX9_leave_22 ?_
        refine ga_get kf_X9_116 (shC hc _) (gv hK.1.2.1) dX9_leave_25 ?_
        refine ga_icmp_ge 89 dX9_leave_28 (by decide) (fun c_28 => ?_) (fun c_28 => absurd (nI_le (by omega) (by have := kw.2.1; omega)) c_28)
        refine ga_iload_n 1 dX9_leave_89 rfl ?_
        refine ga_if_ne 97 dX9_leave_90 (by decide) (fun c_90 => ?_) (fun c_90 => ?_)
        · refine ga_iload_n 3 dX9_leave_97 rfl ?_
          exact gd_iret dX9_leave_98 ⟨gv (by unfold aLeave; rw [if_neg c_6, ← et]; first | exact (if_pos c_90).symm | exact (if_neg c_90).symm), hX1, hF⟩
        · refine ga_iload_n 2 dX9_leave_93 rfl ?_
          refine ga_goto 98 dX9_leave_94 (by decide) ?_
          exact gd_iret dX9_leave_98 ⟨gv (by unfold aLeave; rw [if_neg c_6, ← et]; first | exact (if_pos c_90).symm | exact (if_neg c_90).symm), hX1, hF⟩
      | succ j ih =>
        intro t ht w1 hX1 hF
        obtain ⟨⟨hc, h11, ⟨c2, hc2, hne2, h12⟩, hfp⟩, hK, hV, hpast, him, hsd, htx, hQ⟩ := id hX1
        have hcur : (some (Value.ref (w1 1 1).toNatClampNeg) : Option Value) = some (Value.ref c) := by rw [h11, nI_clamp (by have := gt_isC_lt hc; omega)]
        have htT : t < K 0 1 := by omega
        refine ga_iload 4 dX9_leave_19 rfl ?_
        refine ga_aload_n 0 dX9_leave_21 rfl ?_
        refine ga_get kf_X9_19 (sh1 _) hcur dX9_leave_22 ?_
        refine ga_get kf_X9_116 (shC hc _) (gv hK.1.2.1) dX9_leave_25 ?_
        refine ga_icmp_ge 89 dX9_leave_28 (by decide) (fun c_28 => absurd c_28 (nI_ge (by omega) (by have := kw.2.1; omega))) (fun c_28 => ?_)
        refine ga_aload_n 0 dX9_leave_31 rfl ?_
        refine ga_get kf_X9_33 (sh1 _) rfl dX9_leave_32 ?_
        refine ga_aload_n 0 dX9_leave_35 rfl ?_
        refine ga_get kf_X9_29 (sh1 _) rfl dX9_leave_36 ?_
        refine gd_V1 km_X9_257 kv_X8_copy (c_X8_copy isS25 isS20 (by omega)) (shS isS25 _) rfl rfl (gt_rc0 (by decide)) (Nat.le_of_ble_eq_true rfl) dX9_leave_39 (fun r_39 w_39 q_39 => ?_)
        obtain ⟨rfl, hF0, hcp⟩ := q_39
        have hT := hcp K V m kw hV
        have hX1 := gx_X_eq (fun a q1 q2 q3 => hF0 a q2) hX1
        have hF : ∀ a, 161 ≤ a → w_39 a = w a := fun a ha => (hF0 a (by omega)).trans (hF a ha)
        obtain ⟨⟨hc, h11, ⟨c2, hc2, hne2, h12⟩, hfp⟩, hK, hV, hpast, him, hsd, htx, hQ⟩ := id hX1
        have hcur : (some (Value.ref (w_39 1 1).toNatClampNeg) : Option Value) = some (Value.ref c) := by rw [h11, nI_clamp (by have := gt_isC_lt hc; omega)]
        refine ga_aload_n 0 dX9_leave_42 rfl ?_
        refine ga_get kf_X9_33 (sh1 _) rfl dX9_leave_43 ?_
        refine ga_get kf_X9_199 (shS isS25 _) rfl dX9_leave_46 ?_
        refine ga_iload 4 dX9_leave_49 rfl ?_
        refine ga_iconst (nI 0) dX9_leave_51 (by decide) ?_
        refine gw_S1 hc hK kw isS25 hT gx_Fr_rf htT dX9_leave_52 (fun w2 hK hT hF2 => ?_)
        have hX1 := gx_X_eq (fun a q1 q2 q3 => hF2 a q2) hX1
        have hF : ∀ a, 161 ≤ a → w2 a = w a := fun a ha => (hF2 a (by omega)).trans (hF a ha)
        obtain ⟨⟨hc, h11, ⟨c2, hc2, hne2, h12⟩, hfp⟩, hK, hV, hpast, him, hsd, htx, hQ⟩ := id hX1
        have hcur : (some (Value.ref (w2 1 1).toNatClampNeg) : Option Value) = some (Value.ref c) := by rw [h11, nI_clamp (by have := gt_isC_lt hc; omega)]
        refine ga_aload_n 0 dX9_leave_53 rfl ?_
        refine ga_get kf_X9_33 (sh1 _) rfl dX9_leave_54 ?_
        refine ga_aload_n 0 dX9_leave_57 rfl ?_
        refine ga_get kf_X9_19 (sh1 _) hcur dX9_leave_58 ?_
        refine ga_V1 km_X9_131 kv_X8_slope (c_X8_slope hc hK kw isS25 hT (gx_up1_VW vw (Nat.zero_le _))) (shS isS25 _) rfl rfl (gt_rc0 (by decide)) (Nat.le_of_ble_eq_true rfl) dX9_leave_61 ?_
        refine gs_istore [(0, _), (1, _), (2, _), (3, _), (4, _), (5, _)] dX9_leave_64 (by decide) rfl rfl ?_
        refine ga_iload_n 2 dX9_leave_66 rfl ?_
        refine ga_iconst ((-1)) dX9_leave_67 (by decide) ?_
        refine ga_icmp_eq 77 dX9_leave_68 (by decide) (fun c_68 => ?_) (fun c_68 => ?_)
        · have e9 : gx_argm (gx_lv K V) (t + 1) = t + 1 := gx_argm_t (Or.inl ((gx_seat_m1 (by have := gx_argm_le (gx_lv K V) t; have := kw.2.1; omega)).mp c_68))
          have h9 := ih (t + 1) (by omega) _ hX1 hF
          rw [e9, gx_seat_s, gx_lva_s] at h9
          refine ga_iload 4 dX9_leave_77 rfl ?_
          refine gs_istore_n [(0, _), (1, _), (2, _), (3, _), (4, _), (5, _)] dX9_leave_79 (by decide) rfl rfl ?_
          refine ga_iload 5 dX9_leave_80 rfl ?_
          refine gs_istore_n [(0, _), (1, _), (2, _), (3, _), (4, _), (5, _)] dX9_leave_82 (by decide) rfl rfl ?_
          refine gs_iincN 4 1 [(0, _), (1, _), (2, _), (3, _), (4, _), (5, _)] dX9_leave_83 rfl (by decide) (by decide) rfl rfl ?_
          refine ga_goto 19 dX9_leave_86 (by decide) ?_
          refine ga_take 5 ?_
          exact h9
        · have hz : ¬ gx_argm (gx_lv K V) t = 0 := fun q => c_68 ((gx_seat_m1 (by have := gx_argm_le (gx_lv K V) t; have := kw.2.1; omega)).mpr q)
          have l1 := gx_lv_le kw vw t
          have l2 := gx_lv_le kw vw (gx_argm (gx_lv K V) t - 1)
          rw [gx_lva_p hz]
          refine ga_iload 5 dX9_leave_71 rfl ?_
          refine ga_iload_n 3 dX9_leave_73 rfl ?_
          refine ga_icmp_ge 83 dX9_leave_74 (by decide) (fun c_74 => ?_) (fun c_74 => ?_)
          · have e9 : gx_argm (gx_lv K V) (t + 1) = gx_argm (gx_lv K V) t := gx_argm_f (fun q => q.elim hz (fun q => absurd (nI_lt (show gx_slope K (gx_up V 1 t 0) < _ from q) (by omega)) (Int32.not_lt.mpr c_74)))
            have h9 := ih (t + 1) (by omega) _ hX1 hF
            rw [e9, gx_lva_p hz] at h9
            refine gs_iincN 4 1 [(0, _), (1, _), (2, _), (3, _), (4, _), (5, _)] dX9_leave_83 rfl (by decide) (by decide) rfl rfl ?_
            refine ga_goto 19 dX9_leave_86 (by decide) ?_
            refine ga_take 5 ?_
            exact h9
          · have e9 : gx_argm (gx_lv K V) (t + 1) = t + 1 := gx_argm_t (Or.inr (by rcases Nat.lt_or_ge (gx_lv K V t) (gx_lv K V (gx_argm (gx_lv K V) t - 1)) with q | q; exact q; exact absurd (nI_le q (by omega)) c_74))
            have h9 := ih (t + 1) (by omega) _ hX1 hF
            rw [e9, gx_seat_s, gx_lva_s] at h9
            refine ga_iload 4 dX9_leave_77 rfl ?_
            refine gs_istore_n [(0, _), (1, _), (2, _), (3, _), (4, _), (5, _)] dX9_leave_79 (by decide) rfl rfl ?_
            refine ga_iload 5 dX9_leave_80 rfl ?_
            refine gs_istore_n [(0, _), (1, _), (2, _), (3, _), (4, _), (5, _)] dX9_leave_82 (by decide) rfl rfl ?_
            refine gs_iincN 4 1 [(0, _), (1, _), (2, _), (3, _), (4, _), (5, _)] dX9_leave_83 rfl (by decide) (by decide) rfl rfl ?_
            refine ga_goto 19 dX9_leave_86 (by decide) ?_
            refine ga_take 5 ?_
            exact h9
    exact loop (K 0 1) 0 (by omega) _ hX (fun _ _ => rfl)
  · refine ga_ldc kc_X9_86 dX9_leave_9 ?_
    exact gd_iret dX9_leave_11 ⟨gv (by unfold aLeave; rw [if_pos c_6]), hX, fun _ _ => rfl⟩
set_option maxRecDepth 100000 in
set_option maxHeartbeats 4000000 in
theorem c_X9_shareOf {l : Launch} {G : gt_G} {n : Nat} {w : gt_W} {c : Nat} {K V : gx_K} {m : Int32} {hs : Nat → gx_K × Int32} {cnt : Nat} {im : Nat → Nat × (gx_K × Int32) × Nat} {sd : Nat} {x : Nat → Nat} {L fp : Nat} {Q : gx_K} (hX : gx_X w c K V m hs cnt im sd x L fp Q) (hW : gx_WF K V m hs cnt im sd x L fp Q) {k p : Nat} (hk : k < K 0 0) (hp : p ≤ 999) : gt_C l G yX9_shareOf cX9_shareOf 4 (some .int) 4 0 0 n [.ref 1, .int (nI k), .int (nI p), .int (nI (gx_dry K V))] (gt_enc w) (some (.int (nI (gx_share K V p k)))) (gt_enc (w)) := by
  obtain ⟨⟨hc, h11, ⟨c2, hc2, hne2, h12⟩, hfp⟩, hK, hV, hpast, him, hsd, htx, hQ⟩ := id hX
  obtain ⟨kw, vw, vd, hhr, hcnt, hhs, him2, hsd2, hxL, hfp2, qw⟩ := id hW
  have hcur : (some (Value.ref (w 1 1).toNatClampNeg) : Option Value) = some (Value.ref c) := by rw [h11, nI_clamp (by have := gt_isC_lt hc; omega)]
  have hdl := gx_dry_le (V := V) kw
  refine gt_C_of (own := RX9) (nm := "shareOf") rfl rfl (by decide +kernel) (Nat.le_of_ble_eq_true rfl) ?_
  show gt_A _ _ _ _ _ _ _ _ _ _ _ [(0, .ref 1), (1, .int (nI k)), (2, .int (nI p)), (3, .int (nI (gx_dry K V)))] _ _
  refine ga_iload_n 3 dX9_shareOf_0 rfl ?_
  refine ga_if_le 19 dX9_shareOf_1 (by decide) (fun c_1 => ?_) (fun c_1 => ?_)
  · have hz : gx_dry K V = 0 ∨ 0 < gx_dep K V k := Or.inl (by rcases Nat.eq_zero_or_pos (gx_dry K V) with q | q; exact q; exact absurd c_1 (nI_nle q (by omega)))
    refine ga_iconst (nI 0) dX9_shareOf_19 (by decide) ?_
    exact ga_iret dX9_shareOf_20 (gv (by unfold gx_share; rw [if_pos hz])) rfl
  · have hd0 : 0 < gx_dry K V := by rcases Nat.eq_zero_or_pos (gx_dry K V) with q | q; exact absurd (show nI (gx_dry K V) ≤ 0 by rw [q]; decide) c_1; exact q
    refine ga_aload_n 0 dX9_shareOf_4 rfl ?_
    refine ga_get kf_X9_29 (sh1 _) rfl dX9_shareOf_5 ?_
    refine ga_aload_n 0 dX9_shareOf_8 rfl ?_
    refine ga_get kf_X9_19 (sh1 _) hcur dX9_shareOf_9 ?_
    refine ga_iload_n 1 dX9_shareOf_12 rfl ?_
    refine ga_V2 km_X9_184 kv_X8_depthAt (c_X8_depthAt hc hK kw isS20 hV vw hk) (shS isS20 _) rfl rfl (gt_rc0 (by decide)) (Nat.le_of_ble_eq_true rfl) dX9_shareOf_13 ?_
    refine ga_if_le 21 dX9_shareOf_16 (by decide) (fun c_16 => ?_) (fun c_16 => ?_)
    · have hz : ¬ (gx_dry K V = 0 ∨ 0 < gx_dep K V k) := fun q => q.elim (fun q => by omega) (fun q => absurd c_16 (nI_nle q (by have := gx_dep_le kw vw k; omega)))
      refine ga_iload_n 2 dX9_shareOf_21 rfl ?_
      refine ga_aload_n 0 dX9_shareOf_22 rfl ?_
      refine ga_get kf_X9_19 (sh1 _) hcur dX9_shareOf_23 ?_
      refine ga_get kf_X9_176 (shC hc _) rfl dX9_shareOf_26 ?_
      refine ga_iload_n 1 dX9_shareOf_29 rfl ?_
      refine gl_C1 hc hK kw hk dX9_shareOf_30 ?_
      refine ga_imul dX9_shareOf_31 ?_
      refine ga_iload_n 3 dX9_shareOf_32 rfl ?_
      refine ga_idiv dX9_shareOf_33 (nI_ne0 hd0 (by omega)) ?_
      exact ga_iret dX9_shareOf_34 (gv (by have h1 : p * K 1 k ≤ 999 * 60 := Nat.mul_le_mul hp (kw.2.2.2.2.1 k hk); unfold gx_share; rw [if_neg hz, pk_mul, pk_div (by omega) hd0 (by omega)])) rfl
    · have hz : gx_dry K V = 0 ∨ 0 < gx_dep K V k := Or.inr (by rcases Nat.eq_zero_or_pos (gx_dep K V k) with q | q; exact absurd (show nI (gx_dep K V k) ≤ 0 by rw [q]; decide) c_16; exact q)
      refine ga_iconst (nI 0) dX9_shareOf_19 (by decide) ?_
      exact ga_iret dX9_shareOf_20 (gv (by unfold gx_share; rw [if_pos hz])) rfl
set_option maxRecDepth 100000 in
set_option maxHeartbeats 4000000 in
theorem c_X9_share {l : Launch} {G : gt_G} {n : Nat} {w : gt_W} {c : Nat} {K V : gx_K} {m : Int32} {hs : Nat → gx_K × Int32} {cnt : Nat} {im : Nat → Nat × (gx_K × Int32) × Nat} {sd : Nat} {x : Nat → Nat} {L fp : Nat} {Q : gx_K} (hX : gx_X w c K V m hs cnt im sd x L fp Q) (hW : gx_WF K V m hs cnt im sd x L fp Q) (a9 b9 : Int32) : gt_D l G yX9_share cX9_share 6 (some .int) 5 n [.ref 1, .int a9, .int b9] w (fun r w' => r = some (.int (aShare K V a9 b9)) ∧ gx_X w' c K V m hs cnt im sd x L fp Q ∧ ∀ a, 161 ≤ a → w' a = w a) := by
  obtain ⟨⟨hc, h11, ⟨c2, hc2, hne2, h12⟩, hfp⟩, hK, hV, hpast, him, hsd, htx, hQ⟩ := id hX
  obtain ⟨kw, vw, vd, hhr, hcnt, hhs, him2, hsd2, hxL, hfp2, qw⟩ := id hW
  have hcur : (some (Value.ref (w 1 1).toNatClampNeg) : Option Value) = some (Value.ref c) := by rw [h11, nI_clamp (by have := gt_isC_lt hc; omega)]
  refine gt_D_of (own := RX9) (nm := "share") rfl rfl (by decide +kernel) (Nat.le_of_ble_eq_true rfl) ?_
  show gt_A _ _ _ _ _ _ _ _ _ _ _ [(0, .ref 1), (1, .int a9), (2, .int b9)] _ _
  refine ga_iload_n 2 dX9_share_0 rfl ?_
  refine ga_iconst ((-1)) dX9_share_1 (by decide) ?_
  refine ga_icmp_eq 19 dX9_share_2 (by decide) (fun c_2 => ?_) (fun c_2 => ?_)
  · have hok : ¬ (¬ b9 = -1 ∧ gx_in b9 (nI (K 0 0)) = 0) := fun q => q.1 c_2
    refine ga_iload_n 1 dX9_share_19 rfl ?_
    refine ga_iconst (nI 0) dX9_share_20 (by decide) ?_
    refine ga_sipush (nI 999) dX9_share_21 (by decide) ?_
    refine ga_S3 km_X9_82 kv_X9_within (c_X9_within a9 (nI 0) (nI 999)) (gt_rc0 (by decide)) (Nat.le_of_ble_eq_true rfl) dX9_share_24 ?_
    refine ga_if_ne 33 dX9_share_27 (by decide) (fun c_27 => ?_) (fun c_27 => ?_)
    · obtain ⟨p, hpl, hp, rfl⟩ := gx_wi_of (by decide) (by decide) c_27
      have ep : (nI p).toNatClampNeg = p := nI_clamp (by omega)
      refine ga_aload_n 0 dX9_share_33 rfl ?_
      refine ga_get kf_X9_29 (sh1 _) rfl dX9_share_34 ?_
      refine ga_aload_n 0 dX9_share_37 rfl ?_
      refine ga_get kf_X9_19 (sh1 _) hcur dX9_share_38 ?_
      refine ga_V1 km_X9_274 kv_X8_dryGround (c_X8_dryGround hc hK kw isS20 hV vw) (shS isS20 _) rfl rfl (gt_rc0 (by decide)) (Nat.le_of_ble_eq_true rfl) dX9_share_41 ?_
      refine gs_istore_n [(0, _), (1, _), (2, _), (3, _)] dX9_share_44 (by decide) rfl rfl ?_
      refine ga_iload_n 2 dX9_share_45 rfl ?_
      refine ga_iconst ((-1)) dX9_share_46 (by decide) ?_
      refine ga_icmp_eq 58 dX9_share_47 (by decide) (fun c_47 => ?_) (fun c_47 => ?_)
      · refine ga_iload_n 1 dX9_share_58 rfl ?_
        refine gs_istore [(0, _), (1, _), (2, _), (3, _), (4, _)] dX9_share_59 (by decide) rfl rfl ?_
        refine ga_iconst (nI 0) dX9_share_61 (by decide) ?_
        refine gs_istore [(0, _), (1, _), (2, _), (3, _), (4, _), (5, _)] dX9_share_62 (by decide) rfl rfl ?_
        have loop : ∀ j t, t + j = K 0 0 → gt_A l G RX9 "share" cX9_share 6 (some .int) (gt_rm 5 0 0) (gt_ZD G n (fun r w' => r = some (.int (aShare K V (nI p) b9)) ∧ gx_X w' c K V m hs cnt im sd x L fp Q ∧ ∀ a, 161 ≤ a → w' a = w a)) (n, 0, 0) 64 [(0, .ref 1), (1, .int (nI p)), (2, .int b9), (3, .int (nI (gx_dry K V))), (4, .int (gx_lf K V p t)), (5, .int (nI t))] [] (gt_enc w) := by
          intro j
          induction j with
          | zero =>
            intro t ht
            have et : t = K 0 0 := by omega
            refine ga_iload 5 dX9_share_64 rfl ?_
            refine ga_aload_n 0 dX9_share_66 rfl ?_
            refine ga_get kf_X9_19 (sh1 _) hcur dX9_share_67 ?_
            refine ga_get kf_X9_113 (shC hc _) (gv hK.1.1) dX9_share_70 ?_
            refine ga_icmp_ge 95 dX9_share_73 (by decide) (fun c_73 => ?_) (fun c_73 => absurd (nI_le (by omega) (by have := kw.1; omega)) c_73)
            refine ga_iload 4 dX9_share_95 rfl ?_
            exact gd_iret dX9_share_97 ⟨gv (by unfold aShare; rw [if_neg hok, if_neg c_27, if_pos c_47, ep, ← et]), hX, fun _ _ => rfl⟩
          | succ j ih =>
            intro t ht
            refine ga_iload 5 dX9_share_64 rfl ?_
            refine ga_aload_n 0 dX9_share_66 rfl ?_
            refine ga_get kf_X9_19 (sh1 _) hcur dX9_share_67 ?_
            refine ga_get kf_X9_113 (shC hc _) (gv hK.1.1) dX9_share_70 ?_
            refine ga_icmp_ge 95 dX9_share_73 (by decide) (fun c_73 => absurd c_73 (nI_ge (by omega) (by have := kw.1; omega))) (fun c_73 => ?_)
            refine ga_iload 4 dX9_share_76 rfl ?_
            refine ga_aload_n 0 dX9_share_78 rfl ?_
            refine ga_iload 5 dX9_share_79 rfl ?_
            refine ga_iload_n 1 dX9_share_81 rfl ?_
            refine ga_iload_n 3 dX9_share_82 rfl ?_
            refine ga_V3 km_X9_277 kv_X9_shareOf (c_X9_shareOf hX hW (by omega) hp) (sh1 _) rfl rfl (gt_rc0 (by decide)) (Nat.le_of_ble_eq_true rfl) dX9_share_83 ?_
            refine ga_isub dX9_share_86 ?_
            refine gs_istore [(0, _), (1, _), (2, _), (3, _), (4, _), (5, _)] dX9_share_87 (by decide) rfl rfl ?_
            refine gs_iincN 5 1 [(0, _), (1, _), (2, _), (3, _), (4, _), (5, _)] dX9_share_89 rfl (by decide) (by decide) rfl rfl ?_
            refine ga_goto 64 dX9_share_92 (by decide) ?_
            exact ih (t + 1) (by omega)
        exact loop (K 0 0) 0 (by omega)
      · have hin : ¬ gx_in b9 (nI (K 0 0)) = 0 := fun q => hok ⟨c_47, q⟩
        obtain ⟨k, hk, rfl⟩ := gx_in_of (by have := kw.1; have := kw.2.1; have := kw.2.2.1; have := kw.2.2.2.1; omega) hin
        have ek : (nI k).toNatClampNeg = k := nI_clamp (by have := kw.1; have := kw.2.1; have := kw.2.2.1; have := kw.2.2.2.1; omega)
        refine ga_aload_n 0 dX9_share_50 rfl ?_
        refine ga_iload_n 2 dX9_share_51 rfl ?_
        refine ga_iload_n 1 dX9_share_52 rfl ?_
        refine ga_iload_n 3 dX9_share_53 rfl ?_
        refine ga_V3 km_X9_277 kv_X9_shareOf (c_X9_shareOf hX hW hk hp) (sh1 _) rfl rfl (gt_rc0 (by decide)) (Nat.le_of_ble_eq_true rfl) dX9_share_54 ?_
        exact gd_iret dX9_share_57 ⟨gv (by unfold aShare; rw [if_neg hok, if_neg c_27, if_neg c_47, ep, ek]), hX, fun _ _ => rfl⟩
    · refine ga_ldc kc_X9_86 dX9_share_30 ?_
      exact gd_iret dX9_share_32 ⟨gv (by unfold aShare; rw [if_neg hok, if_pos c_27]), hX, fun _ _ => rfl⟩
  · refine ga_aload_n 0 dX9_share_5 rfl ?_
    refine ga_get kf_X9_19 (sh1 _) hcur dX9_share_6 ?_
    refine ga_iload_n 2 dX9_share_9 rfl ?_
    refine ga_V1 km_X9_171 kv_X0_hasCell (c_X0_hasCell hc hK.1.1 b9) (shC hc _) rfl rfl (gt_rc0 (by decide)) (Nat.le_of_ble_eq_true rfl) dX9_share_10 ?_
    refine ga_if_ne 19 dX9_share_13 (by decide) (fun c_13 => ?_) (fun c_13 => ?_)
    · have hok : ¬ (¬ b9 = -1 ∧ gx_in b9 (nI (K 0 0)) = 0) := fun q => c_13 q.2
      refine ga_iload_n 1 dX9_share_19 rfl ?_
      refine ga_iconst (nI 0) dX9_share_20 (by decide) ?_
      refine ga_sipush (nI 999) dX9_share_21 (by decide) ?_
      refine ga_S3 km_X9_82 kv_X9_within (c_X9_within a9 (nI 0) (nI 999)) (gt_rc0 (by decide)) (Nat.le_of_ble_eq_true rfl) dX9_share_24 ?_
      refine ga_if_ne 33 dX9_share_27 (by decide) (fun c_27 => ?_) (fun c_27 => ?_)
      · obtain ⟨p, hpl, hp, rfl⟩ := gx_wi_of (by decide) (by decide) c_27
        have ep : (nI p).toNatClampNeg = p := nI_clamp (by omega)
        refine ga_aload_n 0 dX9_share_33 rfl ?_
        refine ga_get kf_X9_29 (sh1 _) rfl dX9_share_34 ?_
        refine ga_aload_n 0 dX9_share_37 rfl ?_
        refine ga_get kf_X9_19 (sh1 _) hcur dX9_share_38 ?_
        refine ga_V1 km_X9_274 kv_X8_dryGround (c_X8_dryGround hc hK kw isS20 hV vw) (shS isS20 _) rfl rfl (gt_rc0 (by decide)) (Nat.le_of_ble_eq_true rfl) dX9_share_41 ?_
        refine gs_istore_n [(0, _), (1, _), (2, _), (3, _)] dX9_share_44 (by decide) rfl rfl ?_
        refine ga_iload_n 2 dX9_share_45 rfl ?_
        refine ga_iconst ((-1)) dX9_share_46 (by decide) ?_
        refine ga_icmp_eq 58 dX9_share_47 (by decide) (fun c_47 => ?_) (fun c_47 => ?_)
        · refine ga_iload_n 1 dX9_share_58 rfl ?_
          refine gs_istore [(0, _), (1, _), (2, _), (3, _), (4, _)] dX9_share_59 (by decide) rfl rfl ?_
          refine ga_iconst (nI 0) dX9_share_61 (by decide) ?_
          refine gs_istore [(0, _), (1, _), (2, _), (3, _), (4, _), (5, _)] dX9_share_62 (by decide) rfl rfl ?_
          have loop : ∀ j t, t + j = K 0 0 → gt_A l G RX9 "share" cX9_share 6 (some .int) (gt_rm 5 0 0) (gt_ZD G n (fun r w' => r = some (.int (aShare K V (nI p) b9)) ∧ gx_X w' c K V m hs cnt im sd x L fp Q ∧ ∀ a, 161 ≤ a → w' a = w a)) (n, 0, 0) 64 [(0, .ref 1), (1, .int (nI p)), (2, .int b9), (3, .int (nI (gx_dry K V))), (4, .int (gx_lf K V p t)), (5, .int (nI t))] [] (gt_enc w) := by
            intro j
            induction j with
            | zero =>
              intro t ht
              have et : t = K 0 0 := by omega
              refine ga_iload 5 dX9_share_64 rfl ?_
              refine ga_aload_n 0 dX9_share_66 rfl ?_
              refine ga_get kf_X9_19 (sh1 _) hcur dX9_share_67 ?_
              refine ga_get kf_X9_113 (shC hc _) (gv hK.1.1) dX9_share_70 ?_
              refine ga_icmp_ge 95 dX9_share_73 (by decide) (fun c_73 => ?_) (fun c_73 => absurd (nI_le (by omega) (by have := kw.1; omega)) c_73)
              refine ga_iload 4 dX9_share_95 rfl ?_
              exact gd_iret dX9_share_97 ⟨gv (by unfold aShare; rw [if_neg hok, if_neg c_27, if_pos c_47, ep, ← et]), hX, fun _ _ => rfl⟩
            | succ j ih =>
              intro t ht
              refine ga_iload 5 dX9_share_64 rfl ?_
              refine ga_aload_n 0 dX9_share_66 rfl ?_
              refine ga_get kf_X9_19 (sh1 _) hcur dX9_share_67 ?_
              refine ga_get kf_X9_113 (shC hc _) (gv hK.1.1) dX9_share_70 ?_
              refine ga_icmp_ge 95 dX9_share_73 (by decide) (fun c_73 => absurd c_73 (nI_ge (by omega) (by have := kw.1; omega))) (fun c_73 => ?_)
              refine ga_iload 4 dX9_share_76 rfl ?_
              refine ga_aload_n 0 dX9_share_78 rfl ?_
              refine ga_iload 5 dX9_share_79 rfl ?_
              refine ga_iload_n 1 dX9_share_81 rfl ?_
              refine ga_iload_n 3 dX9_share_82 rfl ?_
              refine ga_V3 km_X9_277 kv_X9_shareOf (c_X9_shareOf hX hW (by omega) hp) (sh1 _) rfl rfl (gt_rc0 (by decide)) (Nat.le_of_ble_eq_true rfl) dX9_share_83 ?_
              refine ga_isub dX9_share_86 ?_
              refine gs_istore [(0, _), (1, _), (2, _), (3, _), (4, _), (5, _)] dX9_share_87 (by decide) rfl rfl ?_
              refine gs_iincN 5 1 [(0, _), (1, _), (2, _), (3, _), (4, _), (5, _)] dX9_share_89 rfl (by decide) (by decide) rfl rfl ?_
              refine ga_goto 64 dX9_share_92 (by decide) ?_
              exact ih (t + 1) (by omega)
          exact loop (K 0 0) 0 (by omega)
        · have hin : ¬ gx_in b9 (nI (K 0 0)) = 0 := fun q => hok ⟨c_47, q⟩
          obtain ⟨k, hk, rfl⟩ := gx_in_of (by have := kw.1; have := kw.2.1; have := kw.2.2.1; have := kw.2.2.2.1; omega) hin
          have ek : (nI k).toNatClampNeg = k := nI_clamp (by have := kw.1; have := kw.2.1; have := kw.2.2.1; have := kw.2.2.2.1; omega)
          refine ga_aload_n 0 dX9_share_50 rfl ?_
          refine ga_iload_n 2 dX9_share_51 rfl ?_
          refine ga_iload_n 1 dX9_share_52 rfl ?_
          refine ga_iload_n 3 dX9_share_53 rfl ?_
          refine ga_V3 km_X9_277 kv_X9_shareOf (c_X9_shareOf hX hW hk hp) (sh1 _) rfl rfl (gt_rc0 (by decide)) (Nat.le_of_ble_eq_true rfl) dX9_share_54 ?_
          exact gd_iret dX9_share_57 ⟨gv (by unfold aShare; rw [if_neg hok, if_neg c_27, if_neg c_47, ep, ek]), hX, fun _ _ => rfl⟩
      · refine ga_ldc kc_X9_86 dX9_share_30 ?_
        exact gd_iret dX9_share_32 ⟨gv (by unfold aShare; rw [if_neg hok, if_pos c_27]), hX, fun _ _ => rfl⟩
    · refine ga_ldc kc_X9_175 dX9_share_16 ?_
      exact gd_iret dX9_share_18 ⟨gv (by unfold aShare; rw [if_pos ⟨c_2, c_13⟩]), hX, fun _ _ => rfl⟩
set_option maxRecDepth 100000 in
set_option maxHeartbeats 4000000 in
theorem c_X9_calm {l : Launch} {G : gt_G} {n : Nat} {w : gt_W} {c : Nat} {K V : gx_K} {m : Int32} {hs : Nat → gx_K × Int32} {cnt : Nat} {im : Nat → Nat × (gx_K × Int32) × Nat} {sd : Nat} {x : Nat → Nat} {L fp : Nat} {Q : gx_K} (hX : gx_X w c K V m hs cnt im sd x L fp Q) (hW : gx_WF K V m hs cnt im sd x L fp Q) (a9 b9 : Int32) : gt_D l G yX9_calm cX9_calm 6 (some .int) 2 n [.ref 1, .int a9, .int b9] w (fun r w' => r = some (.int (aCalm a9 b9)) ∧ gx_X w' c K V m hs cnt im sd x L fp Q ∧ ∀ a, 161 ≤ a → w' a = w a) := by
  obtain ⟨⟨hc, h11, ⟨c2, hc2, hne2, h12⟩, hfp⟩, hK, hV, hpast, him, hsd, htx, hQ⟩ := id hX
  obtain ⟨kw, vw, vd, hhr, hcnt, hhs, him2, hsd2, hxL, hfp2, qw⟩ := id hW
  have hcur : (some (Value.ref (w 1 1).toNatClampNeg) : Option Value) = some (Value.ref c) := by rw [h11, nI_clamp (by have := gt_isC_lt hc; omega)]
  refine gt_D_of (own := RX9) (nm := "calm") rfl rfl (by decide +kernel) (Nat.le_of_ble_eq_true rfl) ?_
  show gt_A _ _ _ _ _ _ _ _ _ _ _ [(0, .ref 1), (1, .int a9), (2, .int b9)] _ _
  refine ga_iload_n 1 dX9_calm_0 rfl ?_
  refine ga_iconst (nI 0) dX9_calm_1 (by decide) ?_
  refine ga_bipush (nI 60) dX9_calm_2 (by decide) ?_
  refine ga_S3 km_X9_82 kv_X9_within (c_X9_within a9 (nI 0) (nI 60)) (gt_rc0 (by decide)) (Nat.le_of_ble_eq_true rfl) dX9_calm_4 ?_
  refine ga_if_eq 20 dX9_calm_7 (by decide) (fun c_7 => ?_) (fun c_7 => ?_)
  · have hno : gx_wi a9 (nI 0) (nI 60) = 0 ∨ gx_wi b9 (nI 0) (nI 100) = 0 := Or.inl c_7
    refine ga_ldc kc_X9_86 dX9_calm_20 ?_
    exact gd_iret dX9_calm_22 ⟨gv (by unfold aCalm; rw [if_pos hno]), hX, fun _ _ => rfl⟩
  · refine ga_iload_n 2 dX9_calm_10 rfl ?_
    refine ga_iconst (nI 0) dX9_calm_11 (by decide) ?_
    refine ga_bipush (nI 100) dX9_calm_12 (by decide) ?_
    refine ga_S3 km_X9_82 kv_X9_within (c_X9_within b9 (nI 0) (nI 100)) (gt_rc0 (by decide)) (Nat.le_of_ble_eq_true rfl) dX9_calm_14 ?_
    refine ga_if_ne 23 dX9_calm_17 (by decide) (fun c_17 => ?_) (fun c_17 => ?_)
    · have hyes : ¬ (gx_wi a9 (nI 0) (nI 60) = 0 ∨ gx_wi b9 (nI 0) (nI 100) = 0) := fun q => q.elim c_7 c_17
      obtain ⟨N, hNl, hN, rfl⟩ := gx_wi_of (by decide) (by decide) c_7
      have eN : (nI N).toNatClampNeg = N := nI_clamp (by omega)
      obtain ⟨q9, hq9l, hq9, rfl⟩ := gx_wi_of (by decide) (by decide) c_17
      have eq9 : (nI q9).toNatClampNeg = q9 := nI_clamp (by omega)
      refine ga_ldc2_w kc_X9_281 dX9_calm_23 ?_
      refine gs_lstore_n [(0, _), (1, _), (2, _), (3, _)] dX9_calm_26 (by decide) rfl rfl ?_
      refine ga_iconst (nI 0) dX9_calm_27 (by decide) ?_
      refine gs_istore [(0, _), (1, _), (2, _), (3, _), (5, _)] dX9_calm_28 (by decide) rfl rfl ?_
      have loop : ∀ j t, t + j = N → gt_A l G RX9 "calm" cX9_calm 6 (some .int) (gt_rm 2 0 0) (gt_ZD G n (fun r w' => r = some (.int (aCalm (nI N) (nI q9))) ∧ gx_X w' c K V m hs cnt im sd x L fp Q ∧ ∀ a, 161 ≤ a → w' a = w a)) (n, 0, 0) 30 [(0, .ref 1), (1, .int (nI N)), (2, .int (nI q9)), (3, .long (lN (gx_clm q9 t))), (5, .int (nI t))] [] (gt_enc w) := by
        intro j
        induction j with
        | zero =>
          intro t ht
          have et : t = N := by omega
          refine ga_iload 4 dX9_calm_30 rfl ?_
          refine ga_iload_n 1 dX9_calm_32 rfl ?_
          refine ga_icmp_ge 51 dX9_calm_33 (by decide) (fun c_33 => ?_) (fun c_33 => absurd (nI_le (by omega) (by omega)) c_33)
          refine ga_lload_n 3 dX9_calm_51 rfl ?_
          refine ga_l2i dX9_calm_52 ?_
          exact gd_iret dX9_calm_53 ⟨gv (by unfold aCalm; rw [if_neg hyes, eN, eq9, ← et, lN_i]), hX, fun _ _ => rfl⟩
        | succ j ih =>
          intro t ht
          refine ga_iload 4 dX9_calm_30 rfl ?_
          refine ga_iload_n 1 dX9_calm_32 rfl ?_
          refine ga_icmp_ge 51 dX9_calm_33 (by decide) (fun c_33 => absurd c_33 (nI_ge (by omega) (by omega))) (fun c_33 => ?_)
          refine ga_lload_n 3 dX9_calm_36 rfl ?_
          refine ga_iload_n 2 dX9_calm_37 rfl ?_
          refine ga_i2l dX9_calm_38 ?_
          refine ga_lmul dX9_calm_39 ?_
          refine ga_ldc2_w kc_X9_283 dX9_calm_40 ?_
          refine ga_ldiv dX9_calm_43 (by decide) ?_
          refine ga_stE (st' := [.long (lN (gx_clm q9 (t + 1)))]) (by have h1 := gx_clm_le hq9 t; have h2 : gx_clm q9 t * q9 ≤ 1000000000 * 100 := Nat.mul_le_mul h1 hq9; show [Value.long (lN (gx_clm q9 t) * (nI q9).toInt64 / lN 100)] = _; rw [nI_l (by omega), lN_mul, gx_ldiv (by omega) (by decide) (by decide)]; rfl) ?_
          refine gs_lstore_n [(0, _), (1, _), (2, _), (3, _), (5, _)] dX9_calm_44 (by decide) rfl rfl ?_
          refine gs_iincN 4 1 [(0, _), (1, _), (2, _), (3, _), (5, _)] dX9_calm_45 rfl (by decide) (by decide) rfl rfl ?_
          refine ga_goto 30 dX9_calm_48 (by decide) ?_
          exact ih (t + 1) (by omega)
      exact loop (N) 0 (by omega)
    · have hno : gx_wi a9 (nI 0) (nI 60) = 0 ∨ gx_wi b9 (nI 0) (nI 100) = 0 := Or.inr c_17
      refine ga_ldc kc_X9_86 dX9_calm_20 ?_
      exact gd_iret dX9_calm_22 ⟨gv (by unfold aCalm; rw [if_pos hno]), hX, fun _ _ => rfl⟩
