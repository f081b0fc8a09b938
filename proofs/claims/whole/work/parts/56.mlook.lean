/-! how many bits -/
def gx_pp (s : Nat) : Nat := gx_cnt (fun k => s.testBit k = true) 6
theorem gx_pp_0 : ∀ s, s < 64 → gx_pp s = 0 → s = 0 := by decide +kernel
theorem gx_pp_s : ∀ s, s < 64 → ¬ s = 0 → gx_pp (s &&& (s - 1)) + 1 = gx_pp s ∧ (s &&& (s - 1)) < 64 ∧ nI s &&& (nI s - nI 1) = nI (s &&& (s - 1)) := by decide +kernel
theorem gx_pp_a : ∀ k, k < 6 → ∀ s, s < 2 ^ k → gx_pp (s + 2 ^ k) = gx_pp s + 1 ∧ nI s ||| (nI 1 <<< (nI k &&& 31)) = nI (s + 2 ^ k) := by decide +kernel
theorem gx_pp_set {P : Nat → Prop} [DecidablePred P] : ∀ n, n ≤ 6 → ∃ s, s < 2 ^ n ∧ gx_set P n = nI s ∧ gx_pp s = gx_cnt P n
  | 0, _ => ⟨0, by decide, rfl, show gx_pp 0 = 0 by decide⟩
  | n + 1, h => by
    obtain ⟨s, h1, h2, h3⟩ := gx_pp_set (P := P) n (by omega)
    have e : 2 ^ (n + 1) = 2 ^ n + 2 ^ n := by rw [Nat.pow_succ]; omega
    by_cases q : P n
    · have h4 := gx_pp_a n (by omega) s h1
      exact ⟨s + 2 ^ n, by omega, by rw [gx_set_t q, h2, h4.2], by rw [gx_cnt_t q, h4.1, h3]⟩
    · exact ⟨s, by omega, by rw [gx_set_f q, h2], by rw [gx_cnt_f q, h3]⟩
theorem gx_pp_le (s : Nat) : gx_pp s ≤ 6 := gx_cnt_le 6
set_option maxRecDepth 100000 in
set_option maxHeartbeats 4000000 in
theorem c_X10_bits {l : Launch} {G : gt_G} {n : Nat} {w : gt_W} {s0 : Nat} (hs0 : s0 < 64) : gt_C l G yX10_bits cX10_bits 3 (some .int) 1 0 0 n [.int (nI s0)] (gt_enc w) (some (.int (nI (gx_pp s0)))) (gt_enc (w)) := by
  refine gt_C_of (own := RX10) (nm := "bits") rfl rfl (by decide +kernel) (Nat.le_of_ble_eq_true rfl) ?_
  show gt_A _ _ _ _ _ _ _ _ _ _ _ [(0, .int (nI s0))] _ _
  refine ga_iconst (nI 0) dX10_bits_0 (by decide) ?_
  refine gs_istore_n [(0, _), (1, _)] dX10_bits_1 (by decide) rfl rfl ?_
  refine ga_iload_n 0 dX10_bits_2 rfl ?_
  refine gs_istore_n [(0, _), (1, _), (2, _)] dX10_bits_3 (by decide) rfl rfl ?_
  have loop : ∀ j c0, c0 + j = gx_pp s0 → ∀ s, s < 64 → gx_pp s = j → gt_A l G RX10 "bits" cX10_bits 3 (some .int) (gt_rm 1 0 0) (gt_Z G (n + 0) 0 0 (some (.int (nI (gx_pp s0)))) (gt_enc (w))) (n, 0, 0) 4 [(0, .int (nI s0)), (1, .int (nI c0)), (2, .int (nI s))] [] (gt_enc w) := by
    intro j
    induction j with
    | zero =>
      intro c0 ht s hs hp
      have ec0 : c0 = gx_pp s0 := by omega
      refine ga_iload_n 2 dX10_bits_4 rfl ?_
      refine ga_if_eq 20 dX10_bits_5 (by decide) (fun c_5 => ?_) (fun c_5 => absurd (show nI s = 0 by rw [gx_pp_0 s hs hp]; rfl) c_5)
      refine ga_iload_n 1 dX10_bits_20 rfl ?_
      exact ga_iret dX10_bits_21 (gv (by rw [ec0])) rfl
    | succ j ih =>
      intro c0 ht s hs hp
      have hnz : ¬ s = 0 := fun q => by rw [q] at hp; exact absurd hp (by show ¬ gx_pp 0 = j + 1; rw [show gx_pp 0 = 0 by decide]; omega)
      have h9 := gx_pp_s s hs hnz
      refine ga_iload_n 2 dX10_bits_4 rfl ?_
      refine ga_if_eq 20 dX10_bits_5 (by decide) (fun c_5 => absurd c_5 (nI_ne0 (by omega) (by omega))) (fun c_5 => ?_)
      refine gs_iincN 1 1 [(0, _), (1, _), (2, _)] dX10_bits_8 rfl (by decide) (by decide) rfl rfl ?_
      refine ga_iload_n 2 dX10_bits_11 rfl ?_
      refine ga_iload_n 2 dX10_bits_12 rfl ?_
      refine ga_iconst (nI 1) dX10_bits_13 (by decide) ?_
      refine ga_isub dX10_bits_14 ?_
      refine ga_iand dX10_bits_15 ?_
      refine ga_top _ h9.2.2 ?_
      refine gs_istore_n [(0, _), (1, _), (2, _)] dX10_bits_16 (by decide) rfl rfl ?_
      refine ga_goto 4 dX10_bits_17 (by decide) ?_
      exact ih (c0 + 1) (by omega) _ h9.2.1 (by omega)
  exact loop (gx_pp s0) 0 (by omega) s0 hs0 rfl
/-- how many of the first u are like t -/
def gx_al (S : Nat → Prop) [DecidablePred S] (f : Nat → Int32) (t u : Nat) : Nat := if S t then gx_cnt (fun q => S q ∧ f t = f q) u else 0
theorem gx_al_0 (S : Nat → Prop) [DecidablePred S] (f : Nat → Int32) (t : Nat) : gx_al S f t 0 = 0 := by unfold gx_al; split <;> rfl
theorem gx_al_le (S : Nat → Prop) [DecidablePred S] (f : Nat → Int32) (t u : Nat) : gx_al S f t u ≤ u := by
  unfold gx_al
  split
  · exact gx_cnt_le u
  · omega
theorem gx_al_n {S : Nat → Prop} [DecidablePred S] {f : Nat → Int32} {t : Nat} (h : ¬ S t) (u : Nat) : gx_al S f t (u + 1) = gx_al S f t u := by unfold gx_al; rw [if_neg h, if_neg h]
theorem gx_al_t {S : Nat → Prop} [DecidablePred S] {f : Nat → Int32} {t u : Nat} (h : S t) (q : S u ∧ f t = f u) : gx_al S f t (u + 1) = gx_al S f t u + 1 := by unfold gx_al; rw [if_pos h, if_pos h, gx_cnt_t (P := fun q => S q ∧ f t = f q) q]
theorem gx_al_f {S : Nat → Prop} [DecidablePred S] {f : Nat → Int32} {t u : Nat} (h : S t) (q : ¬ (S u ∧ f t = f u)) : gx_al S f t (u + 1) = gx_al S f t u := by unfold gx_al; rw [if_pos h, if_pos h, gx_cnt_f (P := fun q => S q ∧ f t = f q) q]
theorem gx_part_al {S : Nat → Prop} [DecidablePred S] {f : Nat → Int32} {n : Nat} : gx_part S f n = gx_mx (fun p => gx_al S f p n) n := rfl
theorem gx_part_congr {S : Nat → Prop} [DecidablePred S] {f g : Nat → Int32} {n : Nat} (h : ∀ p, p < n → S p → f p = g p) : gx_part S f n = gx_part S g n := by
  unfold gx_part
  refine gx_mx_congr n (fun p hp => ?_)
  by_cases q : S p
  · show (if S p then _ else 0) = (if S p then _ else 0)
    rw [if_pos q, if_pos q]
    refine gx_cnt_congr n (fun r hr => ?_)
    constructor
    · rintro ⟨h1, h2⟩; exact ⟨h1, by rw [← h p hp q, ← h r hr h1]; exact h2⟩
    · rintro ⟨h1, h2⟩; exact ⟨h1, by rw [h p hp q, h r hr h1]; exact h2⟩
  · show (if S p then _ else 0) = (if S p then _ else 0)
    rw [if_neg q, if_neg q]
theorem gx_part_le {S : Nat → Prop} [DecidablePred S] {f : Nat → Int32} {n : Nat} : gx_part S f n ≤ n := by
  rw [gx_part_al]
  exact gx_mx_le n (fun k hk => gx_al_le S f k n)
theorem gx_slp_S {x : Int32} {k : Nat} (h : gx_slpB x (nI k) = 0) : ¬ (x >>> (nI k &&& 31)) &&& nI 1 = nI 1 := fun q => by unfold gx_slpB at h; rw [if_pos q] at h; exact absurd h (by decide)
theorem gx_slp_T {x : Int32} {k : Nat} (h : ¬ gx_slpB x (nI k) = 0) : (x >>> (nI k &&& 31)) &&& nI 1 = nI 1 := Decidable.byContradiction fun q => h (by unfold gx_slpB; rw [if_neg q]; exact nI_0)
set_option maxRecDepth 100000 in
set_option maxHeartbeats 4000000 in
theorem c_X10_greatestPart {l : Launch} {G : gt_G} {n : Nat} {w : gt_W} {K : gx_K} {sl : Int32} {pl : Nat} {S : Nat → Prop} [DecidablePred S] (hM : gx_mc (w 162) K) (kw : gx_KW K) (hS : ∀ p, p < K 0 2 → ((sl >>> (nI p &&& 31)) &&& nI 1 = nI 1 ↔ S p)) (hp : pl < 200) : gt_C l G yX10_greatestPart cX10_greatestPart 7 (some .int) 2 0 0 n [.ref 161, .int sl, .int (nI pl)] (gt_enc w) (some (.int (nI (gx_part S (fun p => w 175 (200 * p + pl)) (K 0 2))))) (gt_enc (w)) := by
  refine gt_C_of (own := RX10) (nm := "greatestPart") rfl rfl (by decide +kernel) (Nat.le_of_ble_eq_true rfl) ?_
  show gt_A _ _ _ _ _ _ _ _ _ _ _ [(0, .ref 161), (1, .int sl), (2, .int (nI pl))] _ _
  refine ga_iconst (nI 0) dX10_greatestPart_0 (by decide) ?_
  refine gs_istore_n [(0, _), (1, _), (2, _), (3, _)] dX10_greatestPart_1 (by decide) rfl rfl ?_
  refine ga_iconst (nI 0) dX10_greatestPart_2 (by decide) ?_
  refine gs_istore [(0, _), (1, _), (2, _), (3, _), (4, _)] dX10_greatestPart_3 (by decide) rfl rfl ?_
  have loop : ∀ j t, t + j = K 0 2 → gt_A l G RX10 "greatestPart" cX10_greatestPart 7 (some .int) (gt_rm 2 0 0) (gt_Z G (n + 0) 0 0 (some (.int (nI (gx_part S (fun p => w 175 (200 * p + pl)) (K 0 2))))) (gt_enc (w))) (n, 0, 0) 5 [(0, .ref 161), (1, .int sl), (2, .int (nI pl)), (3, .int (nI (gx_mx (fun p => gx_al S (fun p => w 175 (200 * p + pl)) p (K 0 2)) t))), (4, .int (nI t))] [] (gt_enc w) := by
    intro j
    induction j with
    | zero =>
      intro t ht
      have et : t = K 0 2 := by omega
      refine ga_iload 4 dX10_greatestPart_5 rfl ?_
      refine ga_aload_n 0 dX10_greatestPart_7 rfl ?_
      refine ga_get kf_X10_7 (sh161 _) rfl dX10_greatestPart_8 ?_
      refine ga_iconst (nI 2) dX10_greatestPart_11 (by decide) ?_
      refine gm_c2 hM dX10_greatestPart_12 ?_
      refine ga_icmp_ge 109 dX10_greatestPart_13 (by decide) (fun c_13 => ?_) (fun c_13 => absurd (nI_le (by omega) (by have := kw.2.2.1; omega)) c_13)
      refine ga_iload_n 3 dX10_greatestPart_109 rfl ?_
      exact ga_iret dX10_greatestPart_110 (gv (by rw [et, gx_part_al])) rfl
    | succ j ih =>
      intro t ht
      refine ga_iload 4 dX10_greatestPart_5 rfl ?_
      refine ga_aload_n 0 dX10_greatestPart_7 rfl ?_
      refine ga_get kf_X10_7 (sh161 _) rfl dX10_greatestPart_8 ?_
      refine ga_iconst (nI 2) dX10_greatestPart_11 (by decide) ?_
      refine gm_c2 hM dX10_greatestPart_12 ?_
      refine ga_icmp_ge 109 dX10_greatestPart_13 (by decide) (fun c_13 => absurd c_13 (nI_ge (by omega) (by have := kw.2.2.1; omega))) (fun c_13 => ?_)
      refine ga_iconst (nI 0) dX10_greatestPart_16 (by decide) ?_
      refine gs_istore [(0, _), (1, _), (2, _), (3, _), (4, _), (5, _)] dX10_greatestPart_17 (by decide) rfl rfl ?_
      refine ga_iconst (nI 0) dX10_greatestPart_19 (by decide) ?_
      refine gs_istore [(0, _), (1, _), (2, _), (3, _), (4, _), (5, _), (6, _)] dX10_greatestPart_20 (by decide) rfl rfl ?_
      have loop2 : ∀ j2 u, u + j2 = K 0 2 → gt_A l G RX10 "greatestPart" cX10_greatestPart 7 (some .int) (gt_rm 2 0 0) (gt_Z G (n + 0) 0 0 (some (.int (nI (gx_part S (fun p => w 175 (200 * p + pl)) (K 0 2))))) (gt_enc (w))) (n, 0, 0) 22 [(0, .ref 161), (1, .int sl), (2, .int (nI pl)), (3, .int (nI (gx_mx (fun p => gx_al S (fun p => w 175 (200 * p + pl)) p (K 0 2)) t))), (4, .int (nI t)), (5, .int (nI (gx_al S (fun p => w 175 (200 * p + pl)) t u))), (6, .int (nI u))] [] (gt_enc w) := by
        intro j2
        induction j2 with
        | zero =>
          intro u ht
          have eu : u = K 0 2 := by omega
          have k2 := kw.2.2.1
          have hml : gx_mx (fun p => gx_al S (fun p => w 175 (200 * p + pl)) p (K 0 2)) t ≤ 6 := gx_mx_le t (fun k hk => by have := gx_al_le S (fun p => w 175 (200 * p + pl)) k (K 0 2); omega)
          have hal := gx_al_le S (fun p => w 175 (200 * p + pl)) t u
          refine ga_iload 6 dX10_greatestPart_22 rfl ?_
          refine ga_aload_n 0 dX10_greatestPart_24 rfl ?_
          refine ga_get kf_X10_7 (sh161 _) rfl dX10_greatestPart_25 ?_
          refine ga_iconst (nI 2) dX10_greatestPart_28 (by decide) ?_
          refine gm_c2 hM dX10_greatestPart_29 ?_
          refine ga_icmp_ge 96 dX10_greatestPart_30 (by decide) (fun c_30 => ?_) (fun c_30 => absurd (nI_le (by omega) (by have := kw.2.2.1; omega)) c_30)
          refine ga_iload_n 3 dX10_greatestPart_96 rfl ?_
          refine ga_iload 5 dX10_greatestPart_97 rfl ?_
          refine ga_S2 km_X10_147 kv_X10_greater c_X10_greater (gt_rc0 (by decide)) (Nat.le_of_ble_eq_true rfl) dX10_greatestPart_99 ?_
          refine ga_top (nI (gx_mx (fun p => gx_al S (fun p => w 175 (200 * p + pl)) p (K 0 2)) (t + 1))) (by rw [gx_maxN (by omega) (by omega), Nat.max_comm, eu]; rfl) ?_
          refine gs_istore_n [(0, _), (1, _), (2, _), (3, _), (4, _), (5, _), (6, _)] dX10_greatestPart_102 (by decide) rfl rfl ?_
          refine gs_iincN 4 1 [(0, _), (1, _), (2, _), (3, _), (4, _), (5, _), (6, _)] dX10_greatestPart_103 rfl (by decide) (by decide) rfl rfl ?_
          refine ga_goto 5 dX10_greatestPart_106 (by decide) ?_
          refine ga_take 5 ?_
          exact ih (t + 1) (by omega)
        | succ j2 ih2 =>
          intro u ht
          have k2 := kw.2.2.1
          refine ga_iload 6 dX10_greatestPart_22 rfl ?_
          refine ga_aload_n 0 dX10_greatestPart_24 rfl ?_
          refine ga_get kf_X10_7 (sh161 _) rfl dX10_greatestPart_25 ?_
          refine ga_iconst (nI 2) dX10_greatestPart_28 (by decide) ?_
          refine gm_c2 hM dX10_greatestPart_29 ?_
          refine ga_icmp_ge 96 dX10_greatestPart_30 (by decide) (fun c_30 => absurd c_30 (nI_ge (by omega) (by have := kw.2.2.1; omega))) (fun c_30 => ?_)
          refine ga_iload 5 dX10_greatestPart_33 rfl ?_
          refine ga_iload_n 1 dX10_greatestPart_35 rfl ?_
          refine ga_iload 4 dX10_greatestPart_36 rfl ?_
          refine ga_S2 km_X10_208 kv_X10_has c_X10_has (gt_rc0 (by decide)) (Nat.le_of_ble_eq_true rfl) dX10_greatestPart_38 ?_
          refine ga_if_eq 86 dX10_greatestPart_41 (by decide) (fun c_41 => ?_) (fun c_41 => ?_)
          · have hal : gx_al S (fun p => w 175 (200 * p + pl)) t (u + 1) = gx_al S (fun p => w 175 (200 * p + pl)) t u + 0 := gx_al_n (fun q => gx_slp_S c_41 ((hS t (by omega)).mpr q)) u
            refine ga_iconst (nI 0) dX10_greatestPart_86 (by decide) ?_
            refine ga_iadd dX10_greatestPart_87 ?_
            refine ga_top (nI (gx_al S (fun p => w 175 (200 * p + pl)) t (u + 1))) (by rw [nI_add, hal]) ?_
            refine gs_istore [(0, _), (1, _), (2, _), (3, _), (4, _), (5, _), (6, _)] dX10_greatestPart_88 (by decide) rfl rfl ?_
            refine gs_iincN 6 1 [(0, _), (1, _), (2, _), (3, _), (4, _), (5, _), (6, _)] dX10_greatestPart_90 rfl (by decide) (by decide) rfl rfl ?_
            refine ga_goto 22 dX10_greatestPart_93 (by decide) ?_
            exact ih2 (u + 1) (by omega)
          · have hSt : S t := (hS t (by omega)).mp (gx_slp_T c_41)
            refine ga_iload_n 1 dX10_greatestPart_44 rfl ?_
            refine ga_iload 6 dX10_greatestPart_45 rfl ?_
            refine ga_S2 km_X10_208 kv_X10_has c_X10_has (gt_rc0 (by decide)) (Nat.le_of_ble_eq_true rfl) dX10_greatestPart_47 ?_
            refine ga_if_eq 86 dX10_greatestPart_50 (by decide) (fun c_50 => ?_) (fun c_50 => ?_)
            · have hal : gx_al S (fun p => w 175 (200 * p + pl)) t (u + 1) = gx_al S (fun p => w 175 (200 * p + pl)) t u + 0 := gx_al_f hSt (fun q => gx_slp_S c_50 ((hS u (by omega)).mpr q.1))
              refine ga_iconst (nI 0) dX10_greatestPart_86 (by decide) ?_
              refine ga_iadd dX10_greatestPart_87 ?_
              refine ga_top (nI (gx_al S (fun p => w 175 (200 * p + pl)) t (u + 1))) (by rw [nI_add, hal]) ?_
              refine gs_istore [(0, _), (1, _), (2, _), (3, _), (4, _), (5, _), (6, _)] dX10_greatestPart_88 (by decide) rfl rfl ?_
              refine gs_iincN 6 1 [(0, _), (1, _), (2, _), (3, _), (4, _), (5, _), (6, _)] dX10_greatestPart_90 rfl (by decide) (by decide) rfl rfl ?_
              refine ga_goto 22 dX10_greatestPart_93 (by decide) ?_
              exact ih2 (u + 1) (by omega)
            · have hSu : S u := (hS u (by omega)).mp (gx_slp_T c_50)
              refine ga_aload_n 0 dX10_greatestPart_53 rfl ?_
              refine ga_get kf_X10_54 (sh161 _) rfl dX10_greatestPart_54 ?_
              refine ga_sipush (nI 200) dX10_greatestPart_57 (by decide) ?_
              refine ga_iload 4 dX10_greatestPart_60 rfl ?_
              refine ga_imul dX10_greatestPart_62 ?_
              refine ga_iload_n 2 dX10_greatestPart_63 rfl ?_
              refine ga_iadd dX10_greatestPart_64 ?_
              refine ge_iald sh175 (k := 200 * t + pl) (gt_ixe (show nI 200 * nI t + nI pl = nI (200 * t + pl) by rw [pk_mul, nI_add]) (by omega) (by decide)) dX10_greatestPart_65 ?_
              refine ga_aload_n 0 dX10_greatestPart_66 rfl ?_
              refine ga_get kf_X10_54 (sh161 _) rfl dX10_greatestPart_67 ?_
              refine ga_sipush (nI 200) dX10_greatestPart_70 (by decide) ?_
              refine ga_iload 6 dX10_greatestPart_73 rfl ?_
              refine ga_imul dX10_greatestPart_75 ?_
              refine ga_iload_n 2 dX10_greatestPart_76 rfl ?_
              refine ga_iadd dX10_greatestPart_77 ?_
              refine ge_iald sh175 (k := 200 * u + pl) (gt_ixe (show nI 200 * nI u + nI pl = nI (200 * u + pl) by rw [pk_mul, nI_add]) (by omega) (by decide)) dX10_greatestPart_78 ?_
              refine ga_icmp_ne 86 dX10_greatestPart_79 (by decide) (fun c_79 => ?_) (fun c_79 => ?_)
              · have hal : gx_al S (fun p => w 175 (200 * p + pl)) t (u + 1) = gx_al S (fun p => w 175 (200 * p + pl)) t u + 0 := gx_al_f hSt (fun q => c_79 q.2)
                refine ga_iconst (nI 0) dX10_greatestPart_86 (by decide) ?_
                refine ga_iadd dX10_greatestPart_87 ?_
                refine ga_top (nI (gx_al S (fun p => w 175 (200 * p + pl)) t (u + 1))) (by rw [nI_add, hal]) ?_
                refine gs_istore [(0, _), (1, _), (2, _), (3, _), (4, _), (5, _), (6, _)] dX10_greatestPart_88 (by decide) rfl rfl ?_
                refine gs_iincN 6 1 [(0, _), (1, _), (2, _), (3, _), (4, _), (5, _), (6, _)] dX10_greatestPart_90 rfl (by decide) (by decide) rfl rfl ?_
                refine ga_goto 22 dX10_greatestPart_93 (by decide) ?_
                exact ih2 (u + 1) (by omega)
              · have hal : gx_al S (fun p => w 175 (200 * p + pl)) t (u + 1) = gx_al S (fun p => w 175 (200 * p + pl)) t u + 1 := gx_al_t hSt ⟨hSu, c_79⟩
                refine ga_iconst (nI 1) dX10_greatestPart_82 (by decide) ?_
                refine ga_goto 87 dX10_greatestPart_83 (by decide) ?_
                refine ga_iadd dX10_greatestPart_87 ?_
                refine ga_top (nI (gx_al S (fun p => w 175 (200 * p + pl)) t (u + 1))) (by rw [nI_add, hal]) ?_
                refine gs_istore [(0, _), (1, _), (2, _), (3, _), (4, _), (5, _), (6, _)] dX10_greatestPart_88 (by decide) rfl rfl ?_
                refine gs_iincN 6 1 [(0, _), (1, _), (2, _), (3, _), (4, _), (5, _), (6, _)] dX10_greatestPart_90 rfl (by decide) (by decide) rfl rfl ?_
                refine ga_goto 22 dX10_greatestPart_93 (by decide) ?_
                exact ih2 (u + 1) (by omega)
      have h9 := loop2 (K 0 2) 0 (by omega)
      rw [gx_al_0] at h9
      exact h9
  exact loop (K 0 2) 0 (by omega)
abbrev gx_pt (K V Q : gx_K) (i : Nat) : Nat := gx_part (fun p => ¬ V 2 p = 0 ∧ gx_fit K V Q p) (gx_fp K V i) (K 0 2)
abbrev gx_lo (K V Q : gx_K) (i : Nat) : Nat × Nat := gx_lk (gx_pt K V Q) (gx_cnt (fun p => ¬ V 2 p = 0 ∧ gx_fit K V Q p) (K 0 2)) i
theorem gx_lo_1 {K V Q : gx_K} (kw : gx_KW K) (i : Nat) : (if nI (gx_pt K V Q i) < nI (gx_lo K V Q i).1 then nI (gx_pt K V Q i) else nI (gx_lo K V Q i).1) = nI (gx_lo K V Q (i + 1)).1 := by
  have k2 := kw.2.2.1
  have l1 : gx_pt K V Q i ≤ K 0 2 := gx_part_le
  have l2 : (gx_lo K V Q i).1 ≤ gx_cnt (fun p => ¬ V 2 p = 0 ∧ gx_fit K V Q p) (K 0 2) := gx_lk_le i
  have l3 : gx_cnt (fun p => ¬ V 2 p = 0 ∧ gx_fit K V Q p) (K 0 2) ≤ K 0 2 := gx_cnt_le _
  by_cases q : gx_pt K V Q i < (gx_lo K V Q i).1
  · rw [if_pos (nI_lt q (by omega)), show gx_lo K V Q (i + 1) = _ from gx_lk_t q]
  · rw [if_neg (nI_nlt (by omega) (by omega)), show gx_lo K V Q (i + 1) = _ from gx_lk_f q]
set_option maxRecDepth 100000 in
set_option maxHeartbeats 4000000 in
theorem c_X10_look {l : Launch} {G : gt_G} {n : Nat} {w : gt_W} {K V : gx_K} {m : Int32} {hs : Nat → gx_K × Int32} {cnt : Nat} {im : Nat → Nat × (gx_K × Int32) × Nat} {sd : Nat} {x : Nat → Nat} {L fp : Nat} {Q : gx_K} (hX : gx_M w K V m hs cnt im sd x L fp Q) (hW : gx_WF K V m hs cnt im sd x L fp Q)  : gt_D l G yX10_look cX10_look 7 (some .int) 6 n [.ref 161] w (fun r w' => r = some (.int (gx_look K V (fun p => ¬ V 2 p = 0 ∧ gx_fit K V Q p))) ∧ gx_M w' K V m hs cnt im sd x L fp Q ∧ ∀ a, a < 161 → w' a = w a) := by
  obtain ⟨hM, hV, hpast, him, hsd, htx, hfp, hQ⟩ := id hX
  obtain ⟨kw, vw, vd, hhr, hcnt, hhs, him2, hsd2, hxL, hfp2, qw⟩ := id hW
  refine gt_D_of (own := RX10) (nm := "look") rfl rfl (by decide +kernel) (Nat.le_of_ble_eq_true rfl) ?_
  show gt_A _ _ _ _ _ _ _ _ _ _ _ [(0, .ref 161)] _ _
  refine ga_aload_n 0 dX10_look_0 rfl ?_
  refine gd_V0 km_X10_182 kv_X10_slept (c_X10_slept hM kw hV vw hQ qw) (sh161 _) rfl rfl (gt_rc0 (by decide)) (Nat.le_of_ble_eq_true rfl) dX10_look_1 (fun r_1 w_1 q_1 => ?_)
  obtain ⟨rfl, o1, hth⟩ := q_1
  have hX1 := gx_M_eq (fun b q1 q2 q3 q4 q5 q6 => o1 b q3 q6) (fun q _ => congrFun (o1 161 (by decide) (by decide)) q) hX
  have hM := hX1.1
  obtain ⟨s9, hs9, es9, ep9⟩ := gx_pp_set (P := (fun p => ¬ V 2 p = 0 ∧ gx_fit K V Q p)) (K 0 2) kw.2.2.1
  have h64 : s9 < 64 := Nat.lt_of_lt_of_le hs9 (Nat.pow_le_pow_right (by decide) kw.2.2.1)
  refine gs_istore_n [(0, _), (1, _)] dX10_look_4 (by decide) rfl rfl ?_
  refine ga_iload_n 1 dX10_look_5 rfl ?_
  refine ga_top (nI s9) es9 ?_
  refine ga_S1 km_X10_293 kv_X10_bits (c_X10_bits h64) (gt_rc0 (by decide)) (Nat.le_of_ble_eq_true rfl) dX10_look_6 ?_
  refine ga_top (nI (gx_cnt (fun p => ¬ V 2 p = 0 ∧ gx_fit K V Q p) (K 0 2))) (by rw [ep9]) ?_
  refine gs_istore_n [(0, _), (1, _), (2, _)] dX10_look_9 (by decide) rfl rfl ?_
  refine ga_iconst ((-1)) dX10_look_10 (by decide) ?_
  refine gs_istore_n [(0, _), (1, _), (2, _), (3, _)] dX10_look_11 (by decide) rfl rfl ?_
  refine ga_iconst (nI 0) dX10_look_12 (by decide) ?_
  refine gs_istore [(0, _), (1, _), (2, _), (3, _), (4, _)] dX10_look_13 (by decide) rfl rfl ?_
  have loop : ∀ j t, t + j = K 0 0 → gt_A l G RX10 "look" cX10_look 7 (some .int) (gt_rm 6 0 0) (gt_ZD G n (fun r w' => r = some (.int (gx_look K V (fun p => ¬ V 2 p = 0 ∧ gx_fit K V Q p))) ∧ gx_M w' K V m hs cnt im sd x L fp Q ∧ ∀ a, a < 161 → w' a = w a)) (n, 0, 0) 15 [(0, .ref 161), (1, .int (gx_set (fun p => ¬ V 2 p = 0 ∧ gx_fit K V Q p) (K 0 2))), (2, .int (nI (gx_lo K V Q (t * 20)).1)), (3, .int (gx_code (gx_lo K V Q (t * 20)).2)), (4, .int (nI t))] [] (gt_enc w_1) := by
    intro j
    induction j with
    | zero =>
      intro t ht
      have et : t = K 0 0 := by omega
      refine ga_iload 4 dX10_look_15 rfl ?_
      refine ga_aload_n 0 dX10_look_17 rfl ?_
      refine ga_get kf_X10_7 (sh161 _) rfl dX10_look_18 ?_
      refine ga_iconst (nI 0) dX10_look_21 (by decide) ?_
      refine gm_c0 hM dX10_look_22 ?_
      refine ga_icmp_ge 91 dX10_look_23 (by decide) (fun c_23 => ?_) (fun c_23 => absurd (nI_le (by omega) (by have := kw.1; omega)) c_23)
      refine ga_iload_n 3 dX10_look_91 rfl ?_
      exact gd_iret dX10_look_92 ⟨by rw [et]; rfl, hX1, fun a ha => o1 a (by omega) (by omega)⟩
    | succ j ih =>
      intro t ht
      refine ga_iload 4 dX10_look_15 rfl ?_
      refine ga_aload_n 0 dX10_look_17 rfl ?_
      refine ga_get kf_X10_7 (sh161 _) rfl dX10_look_18 ?_
      refine ga_iconst (nI 0) dX10_look_21 (by decide) ?_
      refine gm_c0 hM dX10_look_22 ?_
      refine ga_icmp_ge 91 dX10_look_23 (by decide) (fun c_23 => absurd c_23 (nI_ge (by omega) (by have := kw.1; omega))) (fun c_23 => ?_)
      refine ga_iconst (nI 1) dX10_look_26 (by decide) ?_
      refine gs_istore [(0, _), (1, _), (2, _), (3, _), (4, _), (5, _)] dX10_look_27 (by decide) rfl rfl ?_
      have loop2 : ∀ j2 u, u + j2 = 20 → gt_A l G RX10 "look" cX10_look 7 (some .int) (gt_rm 6 0 0) (gt_ZD G n (fun r w' => r = some (.int (gx_look K V (fun p => ¬ V 2 p = 0 ∧ gx_fit K V Q p))) ∧ gx_M w' K V m hs cnt im sd x L fp Q ∧ ∀ a, a < 161 → w' a = w a)) (n, 0, 0) 29 [(0, .ref 161), (1, .int (gx_set (fun p => ¬ V 2 p = 0 ∧ gx_fit K V Q p) (K 0 2))), (2, .int (nI (gx_lo K V Q (t * 20 + u)).1)), (3, .int (gx_code (gx_lo K V Q (t * 20 + u)).2)), (4, .int (nI t)), (5, .int (nI (u + 1)))] [] (gt_enc w_1) := by
        intro j2
        induction j2 with
        | zero =>
          intro u ht
          have eu : u = 20 := by omega
          refine ga_iload 5 dX10_look_29 rfl ?_
          refine ga_bipush (nI 21) dX10_look_31 (by decide) ?_
          refine ga_icmp_ge 85 dX10_look_33 (by decide) (fun c_33 => ?_) (fun c_33 => absurd (nI_le (show 21 ≤ u + 1 by omega) (by omega)) c_33)
          refine gs_iincN 4 1 [(0, _), (1, _), (2, _), (3, _), (4, _), (5, _)] dX10_look_85 rfl (by decide) (by decide) rfl rfl ?_
          refine ga_goto 15 dX10_look_88 (by decide) ?_
          refine ga_take 5 ?_
          have h9 := ih (t + 1) (by omega)
          rw [show (t + 1) * 20 = (t * 20 + u) by omega] at h9
          exact h9
        | succ j2 ih2 =>
          intro u ht
          have k0 := kw.1
          have k2 := kw.2.2.1
          have l1 : gx_pt K V Q (t * 20 + u) ≤ K 0 2 := gx_part_le
          have l2 : (gx_lo K V Q (t * 20 + u)).1 ≤ gx_cnt (fun p => ¬ V 2 p = 0 ∧ gx_fit K V Q p) (K 0 2) := gx_lk_le (t * 20 + u)
          have l3 : gx_cnt (fun p => ¬ V 2 p = 0 ∧ gx_fit K V Q p) (K 0 2) ≤ K 0 2 := gx_cnt_le _
          refine ga_iload 5 dX10_look_29 rfl ?_
          refine ga_bipush (nI 21) dX10_look_31 (by decide) ?_
          refine ga_icmp_ge 85 dX10_look_33 (by decide) (fun c_33 => absurd c_33 (nI_ge (show u + 1 < 21 by omega) (by omega))) (fun c_33 => ?_)
          refine ga_aload_n 0 dX10_look_36 rfl ?_
          refine ga_iload_n 1 dX10_look_37 rfl ?_
          refine ga_bipush (nI 10) dX10_look_38 (by decide) ?_
          refine ga_iload 5 dX10_look_40 rfl ?_
          refine ga_iconst (nI 1) dX10_look_42 (by decide) ?_
          refine ga_isub dX10_look_43 ?_
          refine ga_top (nI u) (nI_pred u) ?_
          refine ga_imul dX10_look_44 ?_
          refine ga_iload 4 dX10_look_45 rfl ?_
          refine ga_iadd dX10_look_47 ?_
          refine ga_top (nI (10 * u + t)) (by rw [pk_mul, nI_add]) ?_
          refine ga_V2 km_X10_296 kv_X10_greatestPart (c_X10_greatestPart (S := (fun p => ¬ V 2 p = 0 ∧ gx_fit K V Q p)) hM kw (fun p hp => gx_bit_slept (by omega) hp) (by omega)) (sh161 _) rfl rfl (gt_rc0 (by decide)) (Nat.le_of_ble_eq_true rfl) dX10_look_48 ?_
          refine ga_top (nI (gx_pt K V Q (t * 20 + u))) (congrArg nI (gx_part_congr (fun p hp hs => by
            have h9 := hth p hp hs.1 u t (by omega) (by omega)
            unfold gx_fp
            rw [show (t * 20 + u) % 20 + 1 = u + 1 by omega, show (t * 20 + u) / 20 = t by omega, ← h9]
            congr 1
            omega))) ?_
          refine gs_istore [(0, _), (1, _), (2, _), (3, _), (4, _), (5, _), (6, _)] dX10_look_51 (by decide) rfl rfl ?_
          refine ga_iload 6 dX10_look_53 rfl ?_
          refine ga_iload_n 2 dX10_look_55 rfl ?_
          refine ga_icmp_ge 70 dX10_look_56 (by decide) (fun c_56 => ?_) (fun c_56 => ?_)
          · have e9 : gx_lo K V Q ((t * 20 + u) + 1) = gx_lo K V Q (t * 20 + u) := gx_lk_f (fun q => absurd (nI_lt q (Nat.lt_of_le_of_lt l2 (by omega))) (Int32.not_lt.mpr c_56))
            refine ga_iload_n 3 dX10_look_70 rfl ?_
            refine gs_istore_n [(0, _), (1, _), (2, _), (3, _), (4, _), (5, _), (6, _)] dX10_look_71 (by decide) rfl rfl ?_
            refine ga_iload 6 dX10_look_72 rfl ?_
            refine ga_iload_n 2 dX10_look_74 rfl ?_
            refine ga_S2 km_X10_212 kv_X10_lesser c_X10_lesser (gt_rc0 (by decide)) (Nat.le_of_ble_eq_true rfl) dX10_look_75 ?_
            refine ga_top _ (gx_lo_1 kw (t * 20 + u)) ?_
            refine gs_istore_n [(0, _), (1, _), (2, _), (3, _), (4, _), (5, _), (6, _)] dX10_look_78 (by decide) rfl rfl ?_
            refine gs_iincN 5 1 [(0, _), (1, _), (2, _), (3, _), (4, _), (5, _), (6, _)] dX10_look_79 rfl (by decide) (by decide) rfl rfl ?_
            refine ga_goto 29 dX10_look_82 (by decide) ?_
            refine ga_take 6 ?_
            have h9 := ih2 (u + 1) (by omega)
            rw [show t * 20 + (u + 1) = (t * 20 + u) + 1 from rfl] at h9
            first | (rw [e9] at h9 ⊢; exact h9) 
          · have e9 : gx_lo K V Q ((t * 20 + u) + 1) = (gx_pt K V Q (t * 20 + u), (t * 20 + u) + 1) := gx_lk_t (Nat.not_le.mp (fun q => c_56 (nI_le q (by omega))))
            refine ga_bipush (nI 100) dX10_look_59 (by decide) ?_
            refine ga_iload 4 dX10_look_61 rfl ?_
            refine ga_imul dX10_look_63 ?_
            refine ga_iload 5 dX10_look_64 rfl ?_
            refine ga_iadd dX10_look_66 ?_
            refine ga_top (gx_code ((t * 20 + u) + 1)) (by unfold gx_code; rw [if_neg (by omega), pk_mul, nI_add]; congr 1; omega) ?_
            refine ga_goto 71 dX10_look_67 (by decide) ?_
            refine gs_istore_n [(0, _), (1, _), (2, _), (3, _), (4, _), (5, _), (6, _)] dX10_look_71 (by decide) rfl rfl ?_
            refine ga_iload 6 dX10_look_72 rfl ?_
            refine ga_iload_n 2 dX10_look_74 rfl ?_
            refine ga_S2 km_X10_212 kv_X10_lesser c_X10_lesser (gt_rc0 (by decide)) (Nat.le_of_ble_eq_true rfl) dX10_look_75 ?_
            refine ga_top _ (gx_lo_1 kw (t * 20 + u)) ?_
            refine gs_istore_n [(0, _), (1, _), (2, _), (3, _), (4, _), (5, _), (6, _)] dX10_look_78 (by decide) rfl rfl ?_
            refine gs_iincN 5 1 [(0, _), (1, _), (2, _), (3, _), (4, _), (5, _), (6, _)] dX10_look_79 rfl (by decide) (by decide) rfl rfl ?_
            refine ga_goto 29 dX10_look_82 (by decide) ?_
            refine ga_take 6 ?_
            have h9 := ih2 (u + 1) (by omega)
            rw [show t * 20 + (u + 1) = (t * 20 + u) + 1 from rfl] at h9
            first | (rw [e9] at h9 ⊢; exact h9) 
      exact loop2 20 0 (by omega)
  have h9 := loop (K 0 0) 0 (by omega)
  rw [Nat.zero_mul] at h9
  exact h9
set_option maxRecDepth 100000 in
set_option maxHeartbeats 4000000 in
theorem c_X10_told {l : Launch} {G : gt_G} {n : Nat} {w : gt_W} {K V : gx_K} {m : Int32} {hs : Nat → gx_K × Int32} {cnt : Nat} {im : Nat → Nat × (gx_K × Int32) × Nat} {sd : Nat} {x : Nat → Nat} {L fp : Nat} {Q : gx_K} (hX : gx_M w K V m hs cnt im sd x L fp Q) (hW : gx_WF K V m hs cnt im sd x L fp Q) (t9 : Int32) : gt_D l G yX10_told cX10_told 2 (some .int) 7 n [.ref 161, .int t9] w (fun r w' => r = some (.int (aTold K V m cnt L Q t9)) ∧ gx_M w' K V m hs cnt im sd x L fp Q ∧ ∀ a, a < 161 → w' a = w a) := by
  obtain ⟨hM, hV, hpast, him, hsd, htx, hfp, hQ⟩ := id hX
  obtain ⟨kw, vw, vd, hhr, hcnt, hhs, him2, hsd2, hxL, hfp2, qw⟩ := id hW
  refine gt_D_of (own := RX10) (nm := "told") rfl rfl (by decide +kernel) (Nat.le_of_ble_eq_true rfl) ?_
  show gt_A _ _ _ _ _ _ _ _ _ _ _ [(0, .ref 161), (1, .int t9)] _ _
  refine ga_iload_n 1 dX10_told_0 rfl ?_
  rcases gx_sw t9 18 with sw_1 | ⟨v_1, hv_1, sw_1⟩
  · refine ga_tableOut 190 dX10_told_1 (by simpa using sw_1) (by decide) ?_
    refine ga_ldc kc_X10_86 dX10_told_190 ?_
    exact gd_iret dX10_told_192 ⟨gv (by unfold aTold; rw [if_neg (gx_out sw_1 (by decide) (by decide)), if_neg (gx_out sw_1 (by decide) (by decide)), if_neg (gx_out sw_1 (by decide) (by decide)), if_neg (gx_out sw_1 (by decide) (by decide)), if_neg (gx_out sw_1 (by decide) (by decide)), if_neg (gx_out sw_1 (by decide) (by decide)), if_neg (gx_out sw_1 (by decide) (by decide)), if_neg (gx_out sw_1 (by decide) (by decide)), if_neg (gx_out sw_1 (by decide) (by decide)), if_neg (gx_out sw_1 (by decide) (by decide)), if_neg (gx_out sw_1 (by decide) (by decide)), if_neg (gx_out sw_1 (by decide) (by decide)), if_neg (gx_out sw_1 (by decide) (by decide)), if_neg (gx_out sw_1 (by decide) (by decide)), if_neg (gx_out sw_1 (by decide) (by decide)), if_neg (gx_out sw_1 (by decide) (by decide)), if_neg (gx_out sw_1 (by decide) (by decide)), if_neg (gx_out sw_1 (by decide) (by decide)), if_neg (gx_out sw_1 (by decide) (by decide))]), hX, fun _ _ => rfl⟩
  rcases (show v_1 = 0 ∨ v_1 = 1 ∨ v_1 = 2 ∨ v_1 = 3 ∨ v_1 = 4 ∨ v_1 = 5 ∨ v_1 = 6 ∨ v_1 = 7 ∨ v_1 = 8 ∨ v_1 = 9 ∨ v_1 = 10 ∨ v_1 = 11 ∨ v_1 = 12 ∨ v_1 = 13 ∨ v_1 = 14 ∨ v_1 = 15 ∨ v_1 = 16 ∨ v_1 = 17 ∨ v_1 = 18 by omega) with rfl | rfl | rfl | rfl | rfl | rfl | rfl | rfl | rfl | rfl | rfl | rfl | rfl | rfl | rfl | rfl | rfl | rfl | rfl
  · refine ga_top (nI 0) (by rw [sw_1]) ?_
    refine ga_tableIn 92 dX10_told_1 (by decide) (by decide) rfl (by decide) ?_
    refine ga_aload_n 0 dX10_told_92 rfl ?_
    refine ga_get kf_X10_7 (sh161 _) rfl dX10_told_93 ?_
    refine ga_iload_n 1 dX10_told_96 rfl ?_
    refine ge_ialdE sh162 (gt_ixe sw_1 (by decide) (by decide)) (hM.1 _ (by decide)) dX10_told_97 ?_
    exact gd_iret dX10_told_98 ⟨gv (by rw [sw_1]; unfold aTold; rw [if_pos rfl]), hX, fun _ _ => rfl⟩
  · refine ga_top (nI 1) (by rw [sw_1]) ?_
    refine ga_tableIn 92 dX10_told_1 (by decide) (by decide) rfl (by decide) ?_
    refine ga_aload_n 0 dX10_told_92 rfl ?_
    refine ga_get kf_X10_7 (sh161 _) rfl dX10_told_93 ?_
    refine ga_iload_n 1 dX10_told_96 rfl ?_
    refine ge_ialdE sh162 (gt_ixe sw_1 (by decide) (by decide)) (hM.1 _ (by decide)) dX10_told_97 ?_
    exact gd_iret dX10_told_98 ⟨gv (by rw [sw_1]; unfold aTold; rw [if_neg (by decide), if_pos rfl]), hX, fun _ _ => rfl⟩
  · refine ga_top (nI 2) (by rw [sw_1]) ?_
    refine ga_tableIn 92 dX10_told_1 (by decide) (by decide) rfl (by decide) ?_
    refine ga_aload_n 0 dX10_told_92 rfl ?_
    refine ga_get kf_X10_7 (sh161 _) rfl dX10_told_93 ?_
    refine ga_iload_n 1 dX10_told_96 rfl ?_
    refine ge_ialdE sh162 (gt_ixe sw_1 (by decide) (by decide)) (hM.1 _ (by decide)) dX10_told_97 ?_
    exact gd_iret dX10_told_98 ⟨gv (by rw [sw_1]; unfold aTold; rw [if_neg (by decide), if_neg (by decide), if_pos rfl]), hX, fun _ _ => rfl⟩
  · refine ga_top (nI 3) (by rw [sw_1]) ?_
    refine ga_tableIn 92 dX10_told_1 (by decide) (by decide) rfl (by decide) ?_
    refine ga_aload_n 0 dX10_told_92 rfl ?_
    refine ga_get kf_X10_7 (sh161 _) rfl dX10_told_93 ?_
    refine ga_iload_n 1 dX10_told_96 rfl ?_
    refine ge_ialdE sh162 (gt_ixe sw_1 (by decide) (by decide)) (hM.1 _ (by decide)) dX10_told_97 ?_
    exact gd_iret dX10_told_98 ⟨gv (by rw [sw_1]; unfold aTold; rw [if_neg (by decide), if_neg (by decide), if_neg (by decide), if_pos rfl]), hX, fun _ _ => rfl⟩
  · refine ga_top (nI 4) (by rw [sw_1]) ?_
    refine ga_tableIn 99 dX10_told_1 (by decide) (by decide) rfl (by decide) ?_
    refine ga_aload_n 0 dX10_told_99 rfl ?_
    refine ga_get kf_X10_87 (sh161 _) (gv htx.1) dX10_told_100 ?_
    exact gd_iret dX10_told_103 ⟨gv (by rw [sw_1]; unfold aTold; rw [if_neg (by decide), if_neg (by decide), if_neg (by decide), if_neg (by decide), if_pos rfl]), hX, fun _ _ => rfl⟩
  · refine ga_top (nI 5) (by rw [sw_1]) ?_
    refine ga_tableIn 104 dX10_told_1 (by decide) (by decide) rfl (by decide) ?_
    refine ga_aload_n 0 dX10_told_104 rfl ?_
    refine ga_get kf_X10_16 (sh161 _) rfl dX10_told_105 ?_
    refine ga_bipush (nI 23) dX10_told_108 (by decide) ?_
    refine gm_sh sh164 hV dX10_told_110 ?_
    exact gd_iret dX10_told_111 ⟨gv (by rw [sw_1]; unfold aTold; rw [if_neg (by decide), if_neg (by decide), if_neg (by decide), if_neg (by decide), if_neg (by decide), if_pos rfl]), hX, fun _ _ => rfl⟩
  · refine ga_top (nI 6) (by rw [sw_1]) ?_
    refine ga_tableIn 112 dX10_told_1 (by decide) (by decide) rfl (by decide) ?_
    refine ga_aload_n 0 dX10_told_112 rfl ?_
    refine ga_aload_n 0 dX10_told_113 rfl ?_
    refine ga_get kf_X10_16 (sh161 _) rfl dX10_told_114 ?_
    refine ga_V1 km_X10_169 kv_X10_slopeOn (c_X10_slopeOn hM kw as164 hV vw) (sh161 _) rfl rfl (gt_rc0 (by decide)) (Nat.le_of_ble_eq_true rfl) dX10_told_117 ?_
    exact gd_iret dX10_told_120 ⟨gv (by rw [sw_1]; unfold aTold; rw [if_neg (by decide), if_neg (by decide), if_neg (by decide), if_neg (by decide), if_neg (by decide), if_neg (by decide), if_pos rfl]), hX, fun _ _ => rfl⟩
  · refine ga_top (nI 7) (by rw [sw_1]) ?_
    refine ga_tableIn 121 dX10_told_1 (by decide) (by decide) rfl (by decide) ?_
    refine ga_aload_n 0 dX10_told_121 rfl ?_
    refine ga_aload_n 0 dX10_told_122 rfl ?_
    refine ga_get kf_X10_16 (sh161 _) rfl dX10_told_123 ?_
    refine ga_V1 km_X10_162 kv_X10_steepest (c_X10_steepest hM kw as164 hV vw) (sh161 _) rfl rfl (gt_rc0 (by decide)) (Nat.le_of_ble_eq_true rfl) dX10_told_126 ?_
    exact gd_iret dX10_told_129 ⟨gv (by rw [sw_1]; unfold aTold; rw [if_neg (by decide), if_neg (by decide), if_neg (by decide), if_neg (by decide), if_neg (by decide), if_neg (by decide), if_neg (by decide), if_pos rfl]), hX, fun _ _ => rfl⟩
  · refine ga_top (nI 8) (by rw [sw_1]) ?_
    refine ga_tableIn 130 dX10_told_1 (by decide) (by decide) rfl (by decide) ?_
    refine ga_aload_n 0 dX10_told_130 rfl ?_
    refine ga_V0 km_X10_172 kv_X10_wet (c_X10_wet hM kw hV vw) (sh161 _) rfl rfl (gt_rc0 (by decide)) (Nat.le_of_ble_eq_true rfl) dX10_told_131 ?_
    exact gd_iret dX10_told_134 ⟨gv (by rw [sw_1]; unfold aTold; rw [if_neg (by decide), if_neg (by decide), if_neg (by decide), if_neg (by decide), if_neg (by decide), if_neg (by decide), if_neg (by decide), if_neg (by decide), if_pos rfl]), hX, fun _ _ => rfl⟩
  · refine ga_top (nI 9) (by rw [sw_1]) ?_
    refine ga_tableIn 135 dX10_told_1 (by decide) (by decide) rfl (by decide) ?_
    refine ga_aload_n 0 dX10_told_135 rfl ?_
    refine ga_iconst (nI 1) dX10_told_136 (by decide) ?_
    refine ga_V1 km_X10_175 kv_X10_boats (c_X10_boats1 hM kw hV vw) (sh161 _) rfl rfl (gt_rc0 (by decide)) (Nat.le_of_ble_eq_true rfl) dX10_told_137 ?_
    exact gd_iret dX10_told_140 ⟨gv (by rw [sw_1]; unfold aTold; rw [if_neg (by decide), if_neg (by decide), if_neg (by decide), if_neg (by decide), if_neg (by decide), if_neg (by decide), if_neg (by decide), if_neg (by decide), if_neg (by decide), if_pos rfl]), hX, fun _ _ => rfl⟩
  · refine ga_top (nI 10) (by rw [sw_1]) ?_
    refine ga_tableIn 141 dX10_told_1 (by decide) (by decide) rfl (by decide) ?_
    refine ga_aload_n 0 dX10_told_141 rfl ?_
    refine ga_iconst (nI 0) dX10_told_142 (by decide) ?_
    refine ga_V1 km_X10_175 kv_X10_boats (c_X10_boats0 hM kw hV vw) (sh161 _) rfl rfl (gt_rc0 (by decide)) (Nat.le_of_ble_eq_true rfl) dX10_told_143 ?_
    exact gd_iret dX10_told_146 ⟨gv (by rw [sw_1]; unfold aTold; rw [if_neg (by decide), if_neg (by decide), if_neg (by decide), if_neg (by decide), if_neg (by decide), if_neg (by decide), if_neg (by decide), if_neg (by decide), if_neg (by decide), if_neg (by decide), if_pos rfl]), hX, fun _ _ => rfl⟩
  · refine ga_top (nI 11) (by rw [sw_1]) ?_
    refine ga_tableIn 147 dX10_told_1 (by decide) (by decide) rfl (by decide) ?_
    refine ga_aload_n 0 dX10_told_147 rfl ?_
    refine ga_V0 km_X10_179 kv_X10_whoSits (c_X10_whoSits hM kw hV vw) (sh161 _) rfl rfl (gt_rc0 (by decide)) (Nat.le_of_ble_eq_true rfl) dX10_told_148 ?_
    exact gd_iret dX10_told_151 ⟨gv (by rw [sw_1]; unfold aTold; rw [if_neg (by decide), if_neg (by decide), if_neg (by decide), if_neg (by decide), if_neg (by decide), if_neg (by decide), if_neg (by decide), if_neg (by decide), if_neg (by decide), if_neg (by decide), if_neg (by decide), if_pos rfl]), hX, fun _ _ => rfl⟩
  · refine ga_top (nI 12) (by rw [sw_1]) ?_
    refine ga_tableIn 152 dX10_told_1 (by decide) (by decide) rfl (by decide) ?_
    refine ga_aload_n 0 dX10_told_152 rfl ?_
    refine ga_get kf_X10_16 (sh161 _) rfl dX10_told_153 ?_
    refine ga_bipush (nI 18) dX10_told_156 (by decide) ?_
    refine gm_sm sh164 hV dX10_told_158 ?_
    exact gd_iret dX10_told_159 ⟨gv (by rw [sw_1]; unfold aTold; rw [if_neg (by decide), if_neg (by decide), if_neg (by decide), if_neg (by decide), if_neg (by decide), if_neg (by decide), if_neg (by decide), if_neg (by decide), if_neg (by decide), if_neg (by decide), if_neg (by decide), if_neg (by decide), if_pos rfl]), hX, fun _ _ => rfl⟩
  · refine ga_top (nI 13) (by rw [sw_1]) ?_
    refine ga_tableIn 160 dX10_told_1 (by decide) (by decide) rfl (by decide) ?_
    refine ga_aload_n 0 dX10_told_160 rfl ?_
    refine ga_get kf_X10_75 (sh161 _) (gv hQ.1.1) dX10_told_161 ?_
    exact gd_iret dX10_told_164 ⟨gv (by rw [sw_1]; unfold aTold; rw [if_neg (by decide), if_neg (by decide), if_neg (by decide), if_neg (by decide), if_neg (by decide), if_neg (by decide), if_neg (by decide), if_neg (by decide), if_neg (by decide), if_neg (by decide), if_neg (by decide), if_neg (by decide), if_neg (by decide), if_pos rfl]), hX, fun _ _ => rfl⟩
  · refine ga_top (nI 14) (by rw [sw_1]) ?_
    refine ga_tableIn 165 dX10_told_1 (by decide) (by decide) rfl (by decide) ?_
    refine ga_aload_n 0 dX10_told_165 rfl ?_
    refine gd_V0 km_X10_182 kv_X10_slept (c_X10_slept hM kw hV vw hQ qw) (sh161 _) rfl rfl (gt_rc0 (by decide)) (Nat.le_of_ble_eq_true rfl) dX10_told_166 (fun r_166 w_166 q_166 => ?_)
    obtain ⟨rfl, o9, -⟩ := q_166
    exact gd_iret dX10_told_169 ⟨gv (by rw [sw_1]; unfold aTold; rw [if_neg (by decide), if_neg (by decide), if_neg (by decide), if_neg (by decide), if_neg (by decide), if_neg (by decide), if_neg (by decide), if_neg (by decide), if_neg (by decide), if_neg (by decide), if_neg (by decide), if_neg (by decide), if_neg (by decide), if_neg (by decide), if_pos rfl]), gx_M_eq (fun b q1 q2 q3 q4 q5 q6 => o9 b q3 q6) (fun q _ => congrFun (o9 161 (by decide) (by decide)) q) hX, fun a ha => o9 a (by omega) (by omega)⟩
  · refine ga_top (nI 15) (by rw [sw_1]) ?_
    refine ga_tableIn 170 dX10_told_1 (by decide) (by decide) rfl (by decide) ?_
    refine ga_aload_n 0 dX10_told_170 rfl ?_
    refine ga_get kf_X10_78 (sh161 _) (gv hQ.1.2.1) dX10_told_171 ?_
    exact gd_iret dX10_told_174 ⟨gv (by rw [sw_1]; unfold aTold; rw [if_neg (by decide), if_neg (by decide), if_neg (by decide), if_neg (by decide), if_neg (by decide), if_neg (by decide), if_neg (by decide), if_neg (by decide), if_neg (by decide), if_neg (by decide), if_neg (by decide), if_neg (by decide), if_neg (by decide), if_neg (by decide), if_neg (by decide), if_pos rfl]), hX, fun _ _ => rfl⟩
  · refine ga_top (nI 16) (by rw [sw_1]) ?_
    refine ga_tableIn 175 dX10_told_1 (by decide) (by decide) rfl (by decide) ?_
    refine ga_aload_n 0 dX10_told_175 rfl ?_
    refine ga_V0 km_X10_185 kv_X10_guts (c_X10_guts hQ qw) (sh161 _) rfl rfl (gt_rc0 (by decide)) (Nat.le_of_ble_eq_true rfl) dX10_told_176 ?_
    exact gd_iret dX10_told_179 ⟨gv (by rw [sw_1]; unfold aTold; rw [if_neg (by decide), if_neg (by decide), if_neg (by decide), if_neg (by decide), if_neg (by decide), if_neg (by decide), if_neg (by decide), if_neg (by decide), if_neg (by decide), if_neg (by decide), if_neg (by decide), if_neg (by decide), if_neg (by decide), if_neg (by decide), if_neg (by decide), if_neg (by decide), if_pos rfl]), hX, fun _ _ => rfl⟩
  · refine ga_top (nI 17) (by rw [sw_1]) ?_
    refine ga_tableIn 180 dX10_told_1 (by decide) (by decide) rfl (by decide) ?_
    refine ga_aload_n 0 dX10_told_180 rfl ?_
    refine ga_get kf_X10_81 (sh161 _) (gv hQ.1.2.2) dX10_told_181 ?_
    exact gd_iret dX10_told_184 ⟨gv (by rw [sw_1]; unfold aTold; rw [if_neg (by decide), if_neg (by decide), if_neg (by decide), if_neg (by decide), if_neg (by decide), if_neg (by decide), if_neg (by decide), if_neg (by decide), if_neg (by decide), if_neg (by decide), if_neg (by decide), if_neg (by decide), if_neg (by decide), if_neg (by decide), if_neg (by decide), if_neg (by decide), if_neg (by decide), if_pos rfl]), hX, fun _ _ => rfl⟩
  · refine ga_top (nI 18) (by rw [sw_1]) ?_
    refine ga_tableIn 185 dX10_told_1 (by decide) (by decide) rfl (by decide) ?_
    refine ga_aload_n 0 dX10_told_185 rfl ?_
    refine ga_get kf_X10_72 (sh161 _) (gv hpast.1) dX10_told_186 ?_
    exact gd_iret dX10_told_189 ⟨gv (by rw [sw_1]; unfold aTold; rw [if_neg (by decide), if_neg (by decide), if_neg (by decide), if_neg (by decide), if_neg (by decide), if_neg (by decide), if_neg (by decide), if_neg (by decide), if_neg (by decide), if_neg (by decide), if_neg (by decide), if_neg (by decide), if_neg (by decide), if_neg (by decide), if_neg (by decide), if_neg (by decide), if_neg (by decide), if_neg (by decide), if_pos rfl]), hX, fun _ _ => rfl⟩
