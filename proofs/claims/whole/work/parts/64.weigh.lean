/-! the reference's plans: a row of towers, T: rests -/
def gx_er (T v : Nat) : Int32 := if v = 0 then nI T else nI (v - 1)
theorem gx_er_0 (T : Nat) : gx_er T 0 = nI T := if_pos rfl
theorem gx_er_s (T u : Nat) : gx_er T (u + 1) = nI u := by unfold gx_er; rw [if_neg (by omega), Nat.add_sub_cancel]
theorem gx_er_p {T v : Nat} (h : ¬ v = 0) : gx_er T v = nI (v - 1) := if_neg h
theorem gx_er_ge {T v : Nat} (hv : v ≤ T) (hT : T ≤ 6) : nI T ≤ gx_er T v ↔ v = 0 := by
  unfold gx_er
  by_cases z : v = 0
  · rw [if_pos z]; exact ⟨fun _ => z, fun _ => Int32.le_refl _⟩
  · rw [if_neg z, nI_leI (by omega) (by omega)]; omega
theorem gx_er_eq {T v u : Nat} (hv : v ≤ T) (hT : T ≤ 6) (hu : u < T) : gx_er T v = nI u ↔ v = u + 1 := by
  unfold gx_er
  by_cases z : v = 0
  · rw [if_pos z, nI_eq (by omega) (by omega)]; omega
  · rw [if_neg z, nI_eq (by omega) (by omega)]; omega
def gx_ppv (V : gx_K) (ρ : Nat → Nat) (t : Nat) : gx_K := fun i j => if i = 2 ∧ j < t then ρ j else V i j
theorem gx_ppv_0 (V : gx_K) (ρ : Nat → Nat) : gx_ppv V ρ 0 = V := by
  funext i j
  exact if_neg (fun q => absurd q.2 (Nat.not_lt_zero j))
theorem gx_ppv_s (V : gx_K) (ρ : Nat → Nat) (t : Nat) : gx_up (gx_ppv V ρ t) 2 t (ρ t) = gx_ppv V ρ (t + 1) := by
  funext i j
  unfold gx_up gx_ppv
  by_cases e : i = 2 ∧ j = t
  · rw [if_pos e, if_pos ⟨e.1, by omega⟩, e.2]
  · rw [if_neg e]
    by_cases e2 : i = 2 ∧ j < t
    · rw [if_pos e2, if_pos ⟨e2.1, by omega⟩]
    · rw [if_neg e2, if_neg (fun q => e2 ⟨q.1, by have := q.2; have : ¬ j = t := fun z => e ⟨q.1, z⟩; omega⟩)]
theorem gx_mny_n {ρ : Nat → Nat} {t : Nat} (h : ρ t = 0) : gx_mny ρ (t + 1) = gx_mny ρ t := by
  show gx_mny ρ t + (if ρ t = 0 then 0 else 1) = _
  rw [if_pos h]; rfl
theorem gx_mny_y {ρ : Nat → Nat} {t : Nat} (h : ¬ ρ t = 0) : gx_mny ρ (t + 1) = gx_mny ρ t + 1 := by
  show gx_mny ρ t + (if ρ t = 0 then 0 else 1) = _
  rw [if_neg h]
theorem gx_ams_n {ar ρ : Nat → Nat} {t : Nat} (h : ρ t = 0) : gx_ams ar ρ (t + 1) = gx_ams ar ρ t := by
  show gx_ams ar ρ t + (if ρ t = 0 then 0 else ar t) = _
  rw [if_pos h]; rfl
theorem gx_ams_y {ar ρ : Nat → Nat} {t : Nat} (h : ¬ ρ t = 0) : gx_ams ar ρ (t + 1) = gx_ams ar ρ t + ar t := by
  show gx_ams ar ρ t + (if ρ t = 0 then 0 else ar t) = _
  rw [if_neg h]
theorem gx_ams_le {K : gx_K} (kw : gx_KW K) (ρ : Nat → Nat) (p : Nat) (hp : p ≤ K 0 2) : gx_ams (K 4) ρ p ≤ 54 := by
  have h := gx_sum_le (f := fun q => if ρ q = 0 then 0 else K 4 q) (b := 9) p (fun k hk => by
    have := kw.2.2.2.2.2.2.2.1 k (by omega)
    show (if _ then _ else _) ≤ 9
    split <;> omega)
  have := kw.2.2.1
  unfold gx_ams
  omega
/-- what is found so far, in the reference's memory -/
def gx_Bs (w : gt_W) (T P : Nat) (σ : gx_Rg) : Prop := w 161 26 = nI σ.1 ∧ w 161 27 = nI σ.2.1 ∧ σ.1 ≤ 100000000 ∧ σ.2.1 ≤ 100000000 ∧ (σ.1 < 100000000 → ∀ q, q < P → w 174 q = gx_er T (σ.2.2 q) ∧ σ.2.2 q ≤ T)
theorem gx_Bs_eq {w w' : gt_W} {T P : Nat} {σ : gx_Rg} (e1 : w' 161 26 = w 161 26) (e2 : w' 161 27 = w 161 27) (e3 : w' 174 = w 174) (h : gx_Bs w T P σ) : gx_Bs w' T P σ := ⟨e1.trans h.1, e2.trans h.2.1, h.2.2.1, h.2.2.2.1, fun q => by rw [e3]; exact h.2.2.2.2 q⟩
theorem gx_wg_t {g : Nat → Nat → Nat} {ar : Nat → Nat} {P A B : Nat} {ρ : Nat → Nat} {σ : gx_Rg} (h1 : gx_mny ρ P < σ.1 ∨ gx_mny ρ P = σ.1 ∧ gx_ams ar ρ P < σ.2.1) (h2 : A ≤ gx_gn g ρ P + B) : gx_wg g ar P A B ρ σ = (gx_mny ρ P, gx_ams ar ρ P, ρ) := if_pos ⟨h1, h2⟩
theorem gx_wg_f1 {g : Nat → Nat → Nat} {ar : Nat → Nat} {P A B : Nat} {ρ : Nat → Nat} {σ : gx_Rg} (h1 : ¬ (gx_mny ρ P < σ.1 ∨ gx_mny ρ P = σ.1 ∧ gx_ams ar ρ P < σ.2.1)) : gx_wg g ar P A B ρ σ = σ := if_neg (fun q => h1 q.1)
theorem gx_wg_f2 {g : Nat → Nat → Nat} {ar : Nat → Nat} {P A B : Nat} {ρ : Nat → Nat} {σ : gx_Rg} (h2 : ¬ A ≤ gx_gn g ρ P + B) : gx_wg g ar P A B ρ σ = σ := if_neg (fun q => h2 q.2)
theorem gx_seat_inc (t : Nat) : gx_seat t + nI 1 = nI t := by
  unfold gx_seat
  apply Int32.toBitVec_inj.mp
  exact BitVec.sub_add_cancel (nI t).toBitVec 1#32
theorem gx_seat_dec (t : Nat) : nI t + (-1) = gx_seat t := by
  unfold gx_seat
  apply Int32.toBitVec_inj.mp
  show (nI t).toBitVec + -1#32 = (nI t).toBitVec - 1#32
  rw [BitVec.sub_eq_add_neg]
set_option maxRecDepth 100000 in
set_option maxHeartbeats 4000000 in
theorem c_X10_weighs {l : Launch} {G : gt_G} {n : Nat} {w : gt_W} {K V : gx_K} {m : Int32} {k9 d9 n9 : Nat} {ρ : Nat → Nat} {σ : gx_Rg} (hM : gx_mc (w 162) K) (kw : gx_KW K) (hV : gx_ms (w 164) K V m) (vw : gx_VW K V) (hk : k9 < K 0 0) (hd9 : d9 ≤ 99) (hn : n9 ≤ 20) (hρ : gx_vp (K 0 1) (K 0 2) ρ) (hrow : ∀ q, q < K 0 2 → w 173 q = gx_er (K 0 1) (ρ q)) (hB : gx_Bs w (K 0 1) (K 0 2) σ) : gt_D l G yX10_weighs cX10_weighs 8 none 5 n [.ref 161, .int (nI k9), .int (nI d9), .int (nI n9)] w (fun r w' => r = none ∧ (∀ b, b ≠ 161 → b ≠ 165 → b ≠ 174 → w' b = w b) ∧ (∀ q, q ≠ 26 → q ≠ 27 → w' 161 q = w 161 q) ∧ gx_Bs w' (K 0 1) (K 0 2) (gx_wg (gx_g K V m k9 n9) (K 4) (K 0 2) (gx_nA K k9 d9) (gx_nB K V k9 d9 n9) ρ σ)) := by
  have k2 := kw.2.2.1
  have k1 := kw.2.1
  have hpw := gx_pv_VW vw hρ
  refine gt_D_of (own := RX10) (nm := "weighs") rfl rfl (by decide +kernel) (Nat.le_of_ble_eq_true rfl) ?_
  show gt_A _ _ _ _ _ _ _ _ _ _ _ [(0, .ref 161), (1, .int (nI k9)), (2, .int (nI d9)), (3, .int (nI n9))] _ _
  refine ga_iconst (nI 0) dX10_weighs_0 (by decide) ?_
  refine gs_istore [(0, _), (1, _), (2, _), (3, _), (4, _)] dX10_weighs_1 (by decide) rfl rfl ?_
  refine ga_iconst (nI 0) dX10_weighs_3 (by decide) ?_
  refine gs_istore [(0, _), (1, _), (2, _), (3, _), (4, _), (5, _)] dX10_weighs_4 (by decide) rfl rfl ?_
  refine ga_aload_n 0 dX10_weighs_6 rfl ?_
  refine gd_V0 km_X10_257 kv_X10_layAside c_X10_layAside (sh161 _) rfl rfl (gt_rc0 (by decide)) (Nat.le_of_ble_eq_true rfl) dX10_weighs_7 (fun r_7 w_7 q_7 => ?_)
  obtain ⟨rfl, oL, hcp⟩ := q_7
  have hT := hcp K V m kw hV
  refine ga_iconst (nI 0) dX10_weighs_10 (by decide) ?_
  refine gs_istore [(0, _), (1, _), (2, _), (3, _), (4, _), (5, _), (6, _)] dX10_weighs_11 (by decide) rfl rfl ?_
  have loop : ∀ j t, t + j = K 0 2 → ∀ w1 : gt_W, (∀ b, b ≠ 165 → w1 b = w b) → gx_ms (w1 165) K (gx_ppv V ρ t) m → gt_A l G RX10 "weighs" cX10_weighs 8 none (gt_rm 5 0 0) (gt_ZD G n (fun r w' => r = none ∧ (∀ b, b ≠ 161 → b ≠ 165 → b ≠ 174 → w' b = w b) ∧ (∀ q, q ≠ 26 → q ≠ 27 → w' 161 q = w 161 q) ∧ gx_Bs w' (K 0 1) (K 0 2) (gx_wg (gx_g K V m k9 n9) (K 4) (K 0 2) (gx_nA K k9 d9) (gx_nB K V k9 d9 n9) ρ σ))) (n, 0, 0) 13 [(0, .ref 161), (1, .int (nI k9)), (2, .int (nI d9)), (3, .int (nI n9)), (4, .int (nI (gx_mny ρ t))), (5, .int (nI (gx_ams (K 4) ρ t))), (6, .int (nI t))] [] (gt_enc w1) := by
    intro j
    induction j with
    | zero =>
      intro t ht w1 o1 hT
      have et : t = K 0 2 := by omega
      subst et
      have hM0 := hM
      have hM : gx_mc (w1 162) K := by rw [o1 162 (by decide)]; exact hM0
      have hT : gx_ms (w1 165) K (gx_wn K (gx_pv K V ρ) m 0) m := hT
      have hmn := gx_mny_P ρ (K 0 2)
      have ham := gx_ams_le kw ρ (K 0 2) (Nat.le_refl _)
      have hb1 := hB.2.2.1
      have hb2 := hB.2.2.2.1
      refine ga_iload 6 dX10_weighs_13 rfl ?_
      refine ga_aload_n 0 dX10_weighs_15 rfl ?_
      refine ga_get kf_X10_7 (sh161 _) rfl dX10_weighs_16 ?_
      refine ga_iconst (nI 2) dX10_weighs_19 (by decide) ?_
      refine gm_c2 hM dX10_weighs_20 ?_
      refine ga_icmp_ge 118 dX10_weighs_21 (by decide) (fun c_21 => ?_) (fun c_21 => absurd (nI_le (by omega) (by have := kw.2.2.1; omega)) c_21)
      refine ga_iload 4 dX10_weighs_118 rfl ?_
      refine ga_aload_n 0 dX10_weighs_120 rfl ?_
      refine ga_get kf_X10_260 (sh161 _) (gv (show w1 161 26 = nI σ.1 by rw [o1 161 (by decide)]; exact hB.1)) dX10_weighs_121 ?_
      refine ga_icmp_gt 145 dX10_weighs_124 (by decide) (fun c_124 => ?_) (fun c_124 => ?_)
      · have hnb : ¬ (gx_mny ρ (K 0 2) < σ.1 ∨ gx_mny ρ (K 0 2) = σ.1 ∧ gx_ams (K 4) ρ (K 0 2) < σ.2.1) := by have q := (nI_ltI (by omega) (by omega)).mp c_124; omega
        exact gd_vret dX10_weighs_145 ⟨rfl, fun b h1 h2 h3 => o1 b h2, fun q _ _ => by rw [o1 161 (by decide)], by rw [gx_wg_f1 hnb]; exact gx_Bs_eq (by rw [o1 161 (by decide)]) (by rw [o1 161 (by decide)]) (o1 174 (by decide)) hB⟩
      · have q124 : gx_mny ρ (K 0 2) ≤ σ.1 := Nat.le_of_not_lt (fun q => c_124 (nI_lt q (by omega)))
        refine ga_iload 4 dX10_weighs_127 rfl ?_
        refine ga_aload_n 0 dX10_weighs_129 rfl ?_
        refine ga_get kf_X10_260 (sh161 _) (gv (show w1 161 26 = nI σ.1 by rw [o1 161 (by decide)]; exact hB.1)) dX10_weighs_130 ?_
        refine ga_icmp_ne 146 dX10_weighs_133 (by decide) (fun c_133 => ?_) (fun c_133 => ?_)
        · have hbet : gx_mny ρ (K 0 2) < σ.1 ∨ gx_mny ρ (K 0 2) = σ.1 ∧ gx_ams (K 4) ρ (K 0 2) < σ.2.1 := Or.inl (by
            rcases Nat.lt_or_ge (gx_mny ρ (K 0 2)) σ.1 with q | q
            · exact q
            · exact absurd (congrArg nI (Nat.le_antisymm q124 q)) c_133)
          refine ga_iconst (nI 0) dX10_weighs_146 (by decide) ?_
          refine gs_istore [(0, _), (1, _), (2, _), (3, _), (4, _), (5, _), (6, _)] dX10_weighs_147 (by decide) rfl rfl ?_
          have loop2 : ∀ j2 i, i + j2 = n9 → ∀ w2 : gt_W, (∀ b, b ≠ 165 → w2 b = w b) → gx_ms (w2 165) K (gx_wn K (gx_pv K V ρ) m i) m → gt_A l G RX10 "weighs" cX10_weighs 8 none (gt_rm 5 0 0) (gt_ZD G n (fun r w' => r = none ∧ (∀ b, b ≠ 161 → b ≠ 165 → b ≠ 174 → w' b = w b) ∧ (∀ q, q ≠ 26 → q ≠ 27 → w' 161 q = w 161 q) ∧ gx_Bs w' (K 0 1) (K 0 2) (gx_wg (gx_g K V m k9 n9) (K 4) (K 0 2) (gx_nA K k9 d9) (gx_nB K V k9 d9 n9) ρ σ))) (n, 0, 0) 149 [(0, .ref 161), (1, .int (nI k9)), (2, .int (nI d9)), (3, .int (nI n9)), (4, .int (nI (gx_mny ρ (K 0 2)))), (5, .int (nI (gx_ams (K 4) ρ (K 0 2)))), (6, .int (nI i))] [] (gt_enc w2) := by
            intro j2
            induction j2 with
            | zero =>
              intro i ht w2 o2 hT2
              have ei : i = n9 := by omega
              have hM : gx_mc (w2 162) K := by rw [o2 162 (by decide)]; exact hM0
              rw [ei] at hT2
              have hfe := gx_feas (m := m) kw vw hρ k9 d9 n9
              have hdl := gx_dep_le kw (gx_wn_VW (m := m) hpw n9) k9
              refine ga_iload 6 dX10_weighs_149 rfl ?_
              refine ga_iload_n 3 dX10_weighs_151 rfl ?_
              refine ga_icmp_ge 169 dX10_weighs_152 (by decide) (fun c_152 => ?_) (fun c_152 => absurd (nI_le (by omega) (by omega)) c_152)
              refine ga_aload_n 0 dX10_weighs_169 rfl ?_
              refine ga_aload_n 0 dX10_weighs_170 rfl ?_
              refine ga_get kf_X10_19 (sh161 _) rfl dX10_weighs_171 ?_
              refine ga_iload_n 1 dX10_weighs_174 rfl ?_
              refine ga_V2 km_X10_166 kv_X10_depthOn (c_X10_depthOn hM kw as165 hT2 (gx_wn_VW hpw n9) hk) (sh161 _) rfl rfl (gt_rc0 (by decide)) (Nat.le_of_ble_eq_true rfl) dX10_weighs_175 ?_
              refine ga_iload_n 2 dX10_weighs_178 rfl ?_
              refine ga_icmp_lt 209 dX10_weighs_179 (by decide) (fun c_179 => ?_) (fun c_179 => ?_)
              · have hf : ¬ gx_nA K k9 d9 ≤ gx_gn (gx_g K V m k9 n9) ρ (K 0 2) + gx_nB K V k9 d9 n9 := fun q => absurd (hfe.mpr q) (by have := (nI_ltI (by omega) (by omega)).mp c_179; omega)
                exact gd_vret dX10_weighs_209 ⟨rfl, fun b h1 h2 h3 => o2 b h2, fun q _ _ => by rw [o2 161 (by decide)], by rw [gx_wg_f2 hf]; exact gx_Bs_eq (by rw [o2 161 (by decide)]) (by rw [o2 161 (by decide)]) (o2 174 (by decide)) hB⟩
              · have hf : gx_nA K k9 d9 ≤ gx_gn (gx_g K V m k9 n9) ρ (K 0 2) + gx_nB K V k9 d9 n9 := hfe.mp (Nat.le_of_not_lt (fun q => c_179 (nI_lt q (by omega))))
                refine ga_aload_n 0 dX10_weighs_182 rfl ?_
                refine ga_iload 4 dX10_weighs_183 rfl ?_
                refine gw_put 26 kp_X10_260 (sh161 _) (sh161 _) rfl rfl (Nat.le_of_ble_eq_true rfl) dX10_weighs_185 (fun w_185 o_185 e_185 => ?_)
                refine ga_aload_n 0 dX10_weighs_188 rfl ?_
                refine ga_iload 5 dX10_weighs_189 rfl ?_
                refine gw_put 27 kp_X10_263 (sh161 _) (sh161 _) rfl rfl (Nat.le_of_ble_eq_true rfl) dX10_weighs_191 (fun w_191 o_191 e_191 => ?_)
                refine ga_aload_n 0 dX10_weighs_194 rfl ?_
                refine ga_get kf_X10_48 (sh161 _) rfl dX10_weighs_195 ?_
                refine ga_iconst (nI 0) dX10_weighs_198 (by decide) ?_
                refine ga_aload_n 0 dX10_weighs_199 rfl ?_
                refine ga_get kf_X10_51 (sh161 _) rfl dX10_weighs_200 ?_
                refine ga_iconst (nI 0) dX10_weighs_203 (by decide) ?_
                refine ga_bipush (nI 6) dX10_weighs_204 (by decide) ?_
                refine ga_S5 km_X10_68 kv_X10_copies (c_X10_copies (i := 0) (j := 0) (N := 6) sh173 sh174 (by decide) (by decide) (by decide) (by decide) (by decide)) (gt_rc0 (by decide)) (Nat.le_of_ble_eq_true rfl) dX10_weighs_206 ?_
                generalize hw206 : gt_wr w_191 174 (gx_cp (w_191 173) (w_191 174) 0 0 6) = w_206
                exact gd_vret dX10_weighs_209 ⟨rfl, fun b h1 h2 h3 => by rw [← hw206, gt_wr_ne _ _ h3, o_191 b h1, o_185 b h1]; exact o2 b h2, fun q h1 h2 => by rw [← hw206, gt_wr_ne _ _ (by decide), e_191, upd_ne _ _ h2, e_185, upd_ne _ _ h1, o2 161 (by decide)], by
        rw [gx_wg_t hbet hf]
        refine ⟨by rw [← hw206, gt_wr_ne _ _ (by decide), e_191, upd_ne _ _ (by decide), e_185, upd_eq], by rw [← hw206, gt_wr_ne _ _ (by decide), e_191, upd_eq], by show gx_mny ρ (K 0 2) ≤ _; omega, by show gx_ams (K 4) ρ (K 0 2) ≤ _; omega, fun _ q hq => ⟨?_, hρ.1 q hq⟩⟩
        have hcp := gx_cp_in (f := w_191 173) (g := w_191 174) (i := 0) (j := 0) (n := 6) (q := q) (by omega)
        rw [Nat.zero_add] at hcp
        rw [← hw206, gt_wr_eq, hcp, o_191 173 (by decide), o_185 173 (by decide), o2 173 (by decide)]
        exact hrow q hq⟩
            | succ j2 ih2 =>
              intro i ht w2 o2 hT2
              have hM : gx_mc (w2 162) K := by rw [o2 162 (by decide)]; exact hM0
              refine ga_iload 6 dX10_weighs_149 rfl ?_
              refine ga_iload_n 3 dX10_weighs_151 rfl ?_
              refine ga_icmp_ge 169 dX10_weighs_152 (by decide) (fun c_152 => absurd c_152 (nI_ge (by omega) (by omega))) (fun c_152 => ?_)
              refine ga_aload_n 0 dX10_weighs_155 rfl ?_
              refine ga_aload_n 0 dX10_weighs_156 rfl ?_
              refine ga_get kf_X10_19 (sh161 _) rfl dX10_weighs_157 ?_
              refine gd_V1 km_X10_215 kv_X10_winds (c_X10_winds hM kw as165 hT2 (gx_wn_VW hpw i)) (sh161 _) rfl rfl (gt_rc0 (by decide)) (Nat.le_of_ble_eq_true rfl) dX10_weighs_160 (fun r_160 w_160 q_160 => ?_)
              obtain ⟨rfl, o160, hT2⟩ := q_160
              refine gs_iincN 6 1 [(0, _), (1, _), (2, _), (3, _), (4, _), (5, _), (6, _)] dX10_weighs_163 rfl (by decide) (by decide) rfl rfl ?_
              refine ga_goto 149 dX10_weighs_166 (by decide) ?_
              exact ih2 (i + 1) (by omega) _ (fun b hb => (o160 b hb).trans (o2 b hb)) hT2
          exact loop2 n9 0 (by omega) _ o1 hT
        · have q133 : gx_mny ρ (K 0 2) = σ.1 := (nI_eq (by omega) (by omega)).mp c_133
          refine ga_iload 5 dX10_weighs_136 rfl ?_
          refine ga_aload_n 0 dX10_weighs_138 rfl ?_
          refine ga_get kf_X10_263 (sh161 _) (gv (show w1 161 27 = nI σ.2.1 by rw [o1 161 (by decide)]; exact hB.2.1)) dX10_weighs_139 ?_
          refine ga_icmp_lt 146 dX10_weighs_142 (by decide) (fun c_142 => ?_) (fun c_142 => ?_)
          · have hbet : gx_mny ρ (K 0 2) < σ.1 ∨ gx_mny ρ (K 0 2) = σ.1 ∧ gx_ams (K 4) ρ (K 0 2) < σ.2.1 := Or.inr ⟨q133, (nI_ltI (by omega) (by omega)).mp c_142⟩
            refine ga_iconst (nI 0) dX10_weighs_146 (by decide) ?_
            refine gs_istore [(0, _), (1, _), (2, _), (3, _), (4, _), (5, _), (6, _)] dX10_weighs_147 (by decide) rfl rfl ?_
            have loop2 : ∀ j2 i, i + j2 = n9 → ∀ w2 : gt_W, (∀ b, b ≠ 165 → w2 b = w b) → gx_ms (w2 165) K (gx_wn K (gx_pv K V ρ) m i) m → gt_A l G RX10 "weighs" cX10_weighs 8 none (gt_rm 5 0 0) (gt_ZD G n (fun r w' => r = none ∧ (∀ b, b ≠ 161 → b ≠ 165 → b ≠ 174 → w' b = w b) ∧ (∀ q, q ≠ 26 → q ≠ 27 → w' 161 q = w 161 q) ∧ gx_Bs w' (K 0 1) (K 0 2) (gx_wg (gx_g K V m k9 n9) (K 4) (K 0 2) (gx_nA K k9 d9) (gx_nB K V k9 d9 n9) ρ σ))) (n, 0, 0) 149 [(0, .ref 161), (1, .int (nI k9)), (2, .int (nI d9)), (3, .int (nI n9)), (4, .int (nI (gx_mny ρ (K 0 2)))), (5, .int (nI (gx_ams (K 4) ρ (K 0 2)))), (6, .int (nI i))] [] (gt_enc w2) := by
              intro j2
              induction j2 with
              | zero =>
                intro i ht w2 o2 hT2
                have ei : i = n9 := by omega
                have hM : gx_mc (w2 162) K := by rw [o2 162 (by decide)]; exact hM0
                rw [ei] at hT2
                have hfe := gx_feas (m := m) kw vw hρ k9 d9 n9
                have hdl := gx_dep_le kw (gx_wn_VW (m := m) hpw n9) k9
                refine ga_iload 6 dX10_weighs_149 rfl ?_
                refine ga_iload_n 3 dX10_weighs_151 rfl ?_
                refine ga_icmp_ge 169 dX10_weighs_152 (by decide) (fun c_152 => ?_) (fun c_152 => absurd (nI_le (by omega) (by omega)) c_152)
                refine ga_aload_n 0 dX10_weighs_169 rfl ?_
                refine ga_aload_n 0 dX10_weighs_170 rfl ?_
                refine ga_get kf_X10_19 (sh161 _) rfl dX10_weighs_171 ?_
                refine ga_iload_n 1 dX10_weighs_174 rfl ?_
                refine ga_V2 km_X10_166 kv_X10_depthOn (c_X10_depthOn hM kw as165 hT2 (gx_wn_VW hpw n9) hk) (sh161 _) rfl rfl (gt_rc0 (by decide)) (Nat.le_of_ble_eq_true rfl) dX10_weighs_175 ?_
                refine ga_iload_n 2 dX10_weighs_178 rfl ?_
                refine ga_icmp_lt 209 dX10_weighs_179 (by decide) (fun c_179 => ?_) (fun c_179 => ?_)
                · have hf : ¬ gx_nA K k9 d9 ≤ gx_gn (gx_g K V m k9 n9) ρ (K 0 2) + gx_nB K V k9 d9 n9 := fun q => absurd (hfe.mpr q) (by have := (nI_ltI (by omega) (by omega)).mp c_179; omega)
                  exact gd_vret dX10_weighs_209 ⟨rfl, fun b h1 h2 h3 => o2 b h2, fun q _ _ => by rw [o2 161 (by decide)], by rw [gx_wg_f2 hf]; exact gx_Bs_eq (by rw [o2 161 (by decide)]) (by rw [o2 161 (by decide)]) (o2 174 (by decide)) hB⟩
                · have hf : gx_nA K k9 d9 ≤ gx_gn (gx_g K V m k9 n9) ρ (K 0 2) + gx_nB K V k9 d9 n9 := hfe.mp (Nat.le_of_not_lt (fun q => c_179 (nI_lt q (by omega))))
                  refine ga_aload_n 0 dX10_weighs_182 rfl ?_
                  refine ga_iload 4 dX10_weighs_183 rfl ?_
                  refine gw_put 26 kp_X10_260 (sh161 _) (sh161 _) rfl rfl (Nat.le_of_ble_eq_true rfl) dX10_weighs_185 (fun w_185 o_185 e_185 => ?_)
                  refine ga_aload_n 0 dX10_weighs_188 rfl ?_
                  refine ga_iload 5 dX10_weighs_189 rfl ?_
                  refine gw_put 27 kp_X10_263 (sh161 _) (sh161 _) rfl rfl (Nat.le_of_ble_eq_true rfl) dX10_weighs_191 (fun w_191 o_191 e_191 => ?_)
                  refine ga_aload_n 0 dX10_weighs_194 rfl ?_
                  refine ga_get kf_X10_48 (sh161 _) rfl dX10_weighs_195 ?_
                  refine ga_iconst (nI 0) dX10_weighs_198 (by decide) ?_
                  refine ga_aload_n 0 dX10_weighs_199 rfl ?_
                  refine ga_get kf_X10_51 (sh161 _) rfl dX10_weighs_200 ?_
                  refine ga_iconst (nI 0) dX10_weighs_203 (by decide) ?_
                  refine ga_bipush (nI 6) dX10_weighs_204 (by decide) ?_
                  refine ga_S5 km_X10_68 kv_X10_copies (c_X10_copies (i := 0) (j := 0) (N := 6) sh173 sh174 (by decide) (by decide) (by decide) (by decide) (by decide)) (gt_rc0 (by decide)) (Nat.le_of_ble_eq_true rfl) dX10_weighs_206 ?_
                  generalize hw206 : gt_wr w_191 174 (gx_cp (w_191 173) (w_191 174) 0 0 6) = w_206
                  exact gd_vret dX10_weighs_209 ⟨rfl, fun b h1 h2 h3 => by rw [← hw206, gt_wr_ne _ _ h3, o_191 b h1, o_185 b h1]; exact o2 b h2, fun q h1 h2 => by rw [← hw206, gt_wr_ne _ _ (by decide), e_191, upd_ne _ _ h2, e_185, upd_ne _ _ h1, o2 161 (by decide)], by
        rw [gx_wg_t hbet hf]
        refine ⟨by rw [← hw206, gt_wr_ne _ _ (by decide), e_191, upd_ne _ _ (by decide), e_185, upd_eq], by rw [← hw206, gt_wr_ne _ _ (by decide), e_191, upd_eq], by show gx_mny ρ (K 0 2) ≤ _; omega, by show gx_ams (K 4) ρ (K 0 2) ≤ _; omega, fun _ q hq => ⟨?_, hρ.1 q hq⟩⟩
        have hcp := gx_cp_in (f := w_191 173) (g := w_191 174) (i := 0) (j := 0) (n := 6) (q := q) (by omega)
        rw [Nat.zero_add] at hcp
        rw [← hw206, gt_wr_eq, hcp, o_191 173 (by decide), o_185 173 (by decide), o2 173 (by decide)]
        exact hrow q hq⟩
              | succ j2 ih2 =>
                intro i ht w2 o2 hT2
                have hM : gx_mc (w2 162) K := by rw [o2 162 (by decide)]; exact hM0
                refine ga_iload 6 dX10_weighs_149 rfl ?_
                refine ga_iload_n 3 dX10_weighs_151 rfl ?_
                refine ga_icmp_ge 169 dX10_weighs_152 (by decide) (fun c_152 => absurd c_152 (nI_ge (by omega) (by omega))) (fun c_152 => ?_)
                refine ga_aload_n 0 dX10_weighs_155 rfl ?_
                refine ga_aload_n 0 dX10_weighs_156 rfl ?_
                refine ga_get kf_X10_19 (sh161 _) rfl dX10_weighs_157 ?_
                refine gd_V1 km_X10_215 kv_X10_winds (c_X10_winds hM kw as165 hT2 (gx_wn_VW hpw i)) (sh161 _) rfl rfl (gt_rc0 (by decide)) (Nat.le_of_ble_eq_true rfl) dX10_weighs_160 (fun r_160 w_160 q_160 => ?_)
                obtain ⟨rfl, o160, hT2⟩ := q_160
                refine gs_iincN 6 1 [(0, _), (1, _), (2, _), (3, _), (4, _), (5, _), (6, _)] dX10_weighs_163 rfl (by decide) (by decide) rfl rfl ?_
                refine ga_goto 149 dX10_weighs_166 (by decide) ?_
                exact ih2 (i + 1) (by omega) _ (fun b hb => (o160 b hb).trans (o2 b hb)) hT2
            exact loop2 n9 0 (by omega) _ o1 hT
          · have hnb : ¬ (gx_mny ρ (K 0 2) < σ.1 ∨ gx_mny ρ (K 0 2) = σ.1 ∧ gx_ams (K 4) ρ (K 0 2) < σ.2.1) := by have q : ¬ gx_ams (K 4) ρ (K 0 2) < σ.2.1 := fun z => c_142 (nI_lt z (by omega)); omega
            exact gd_vret dX10_weighs_145 ⟨rfl, fun b h1 h2 h3 => o1 b h2, fun q _ _ => by rw [o1 161 (by decide)], by rw [gx_wg_f1 hnb]; exact gx_Bs_eq (by rw [o1 161 (by decide)]) (by rw [o1 161 (by decide)]) (o1 174 (by decide)) hB⟩
    | succ j ih =>
      intro t ht w1 o1 hT
      have hM0 := hM
      have hM : gx_mc (w1 162) K := by rw [o1 162 (by decide)]; exact hM0
      have htP : t < K 0 2 := by omega
      have hvT := hρ.1 t htP
      have hrw : w1 173 t = gx_er (K 0 1) (ρ t) := by rw [o1 173 (by decide)]; exact hrow t htP
      refine ga_iload 6 dX10_weighs_13 rfl ?_
      refine ga_aload_n 0 dX10_weighs_15 rfl ?_
      refine ga_get kf_X10_7 (sh161 _) rfl dX10_weighs_16 ?_
      refine ga_iconst (nI 2) dX10_weighs_19 (by decide) ?_
      refine gm_c2 hM dX10_weighs_20 ?_
      refine ga_icmp_ge 118 dX10_weighs_21 (by decide) (fun c_21 => absurd c_21 (nI_ge (by omega) (by have := kw.2.2.1; omega))) (fun c_21 => ?_)
      refine ga_aload_n 0 dX10_weighs_24 rfl ?_
      refine ga_get kf_X10_48 (sh161 _) rfl dX10_weighs_25 ?_
      refine ga_iload 6 dX10_weighs_28 rfl ?_
      refine ge_ialdE sh173 (gt_ixn (by omega)) hrw dX10_weighs_30 ?_
      refine ga_aload_n 0 dX10_weighs_31 rfl ?_
      refine ga_get kf_X10_7 (sh161 _) rfl dX10_weighs_32 ?_
      refine ga_iconst (nI 1) dX10_weighs_35 (by decide) ?_
      refine gm_c1 hM dX10_weighs_36 ?_
      refine ga_icmp_ge 44 dX10_weighs_37 (by decide) (fun c_37 => ?_) (fun c_37 => ?_)
      · have hz : ρ t = 0 := (gx_er_ge hvT kw.2.1).mp c_37
        have e59 : nI (gx_mny ρ t) + nI 0 = nI (gx_mny ρ (t + 1)) := by rw [nI_add, gx_mny_n hz]; rfl
        have e83 : nI (gx_ams (K 4) ρ t) + nI 0 = nI (gx_ams (K 4) ρ (t + 1)) := by rw [nI_add, gx_ams_n hz]; rfl
        refine ga_iconst (nI 0) dX10_weighs_44 (by decide) ?_
        refine gs_istore [(0, _), (1, _), (2, _), (3, _), (4, _), (5, _), (6, _), (7, _)] dX10_weighs_45 (by decide) rfl rfl ?_
        refine ga_iload 4 dX10_weighs_47 rfl ?_
        refine ga_iload 7 dX10_weighs_49 rfl ?_
        refine ga_if_eq 58 dX10_weighs_51 (by decide) (fun c_51 => ?_) (fun c_51 => absurd nI_0 c_51)
        refine ga_iconst (nI 0) dX10_weighs_58 (by decide) ?_
        refine ga_iadd dX10_weighs_59 ?_
        refine ga_top _ e59 ?_
        refine gs_istore [(0, _), (1, _), (2, _), (3, _), (4, _), (5, _), (6, _), (7, _)] dX10_weighs_60 (by decide) rfl rfl ?_
        refine ga_iload 5 dX10_weighs_62 rfl ?_
        refine ga_iload 7 dX10_weighs_64 rfl ?_
        refine ga_if_eq 82 dX10_weighs_66 (by decide) (fun c_66 => ?_) (fun c_66 => absurd nI_0 c_66)
        refine ga_iconst (nI 0) dX10_weighs_82 (by decide) ?_
        refine ga_iadd dX10_weighs_83 ?_
        refine ga_top _ e83 ?_
        refine gs_istore [(0, _), (1, _), (2, _), (3, _), (4, _), (5, _), (6, _), (7, _)] dX10_weighs_84 (by decide) rfl rfl ?_
        refine ga_aload_n 0 dX10_weighs_86 rfl ?_
        refine ga_get kf_X10_19 (sh161 _) rfl dX10_weighs_87 ?_
        refine ga_bipush (nI 12) dX10_weighs_90 (by decide) ?_
        refine ga_iload 6 dX10_weighs_92 rfl ?_
        refine ga_iadd dX10_weighs_94 ?_
        refine ga_iload 7 dX10_weighs_95 rfl ?_
        refine ga_if_eq 110 dX10_weighs_97 (by decide) (fun c_97 => ?_) (fun c_97 => absurd nI_0 c_97)
        refine ga_iconst ((-1)) dX10_weighs_110 (by decide) ?_
        refine ga_top (gx_seat (ρ t)) (by rw [hz]; rfl) ?_
        refine gmw_S2 sh165 hT kw (by omega) dX10_weighs_111 (fun w_111 o_111 hT => ?_)
        refine gs_iincN 6 1 [(0, _), (1, _), (2, _), (3, _), (4, _), (5, _), (6, _), (7, _)] dX10_weighs_112 rfl (by decide) (by decide) rfl rfl ?_
        refine ga_goto 13 dX10_weighs_115 (by decide) ?_
        refine ga_take 7 ?_
        rw [gx_ppv_s] at hT
        exact ih (t + 1) (by omega) _ (fun b hb => (o_111 b hb).trans (o1 b hb)) hT
      · have hnz : ¬ ρ t = 0 := fun q => c_37 ((gx_er_ge hvT kw.2.1).mpr q)
        have e59 : nI (gx_mny ρ t) + nI 1 = nI (gx_mny ρ (t + 1)) := by rw [nI_add, gx_mny_y hnz]
        have e83 : nI (gx_ams (K 4) ρ t) + nI (K 4 t) = nI (gx_ams (K 4) ρ (t + 1)) := by rw [nI_add, gx_ams_y hnz]
        refine ga_iconst (nI 1) dX10_weighs_40 (by decide) ?_
        refine ga_goto 45 dX10_weighs_41 (by decide) ?_
        refine gs_istore [(0, _), (1, _), (2, _), (3, _), (4, _), (5, _), (6, _), (7, _)] dX10_weighs_45 (by decide) rfl rfl ?_
        refine ga_iload 4 dX10_weighs_47 rfl ?_
        refine ga_iload 7 dX10_weighs_49 rfl ?_
        refine ga_if_eq 58 dX10_weighs_51 (by decide) (fun c_51 => absurd c_51 (by decide)) (fun c_51 => ?_)
        refine ga_iconst (nI 1) dX10_weighs_54 (by decide) ?_
        refine ga_goto 59 dX10_weighs_55 (by decide) ?_
        refine ga_iadd dX10_weighs_59 ?_
        refine ga_top _ e59 ?_
        refine gs_istore [(0, _), (1, _), (2, _), (3, _), (4, _), (5, _), (6, _), (7, _)] dX10_weighs_60 (by decide) rfl rfl ?_
        refine ga_iload 5 dX10_weighs_62 rfl ?_
        refine ga_iload 7 dX10_weighs_64 rfl ?_
        refine ga_if_eq 82 dX10_weighs_66 (by decide) (fun c_66 => absurd c_66 (by decide)) (fun c_66 => ?_)
        refine ga_aload_n 0 dX10_weighs_69 rfl ?_
        refine ga_get kf_X10_7 (sh161 _) rfl dX10_weighs_70 ?_
        refine ga_bipush (nI 26) dX10_weighs_73 (by decide) ?_
        refine ga_iload 6 dX10_weighs_75 rfl ?_
        refine ga_iadd dX10_weighs_77 ?_
        refine gm_C4 hM kw htP dX10_weighs_78 ?_
        refine ga_goto 83 dX10_weighs_79 (by decide) ?_
        refine ga_iadd dX10_weighs_83 ?_
        refine ga_top _ e83 ?_
        refine gs_istore [(0, _), (1, _), (2, _), (3, _), (4, _), (5, _), (6, _), (7, _)] dX10_weighs_84 (by decide) rfl rfl ?_
        refine ga_aload_n 0 dX10_weighs_86 rfl ?_
        refine ga_get kf_X10_19 (sh161 _) rfl dX10_weighs_87 ?_
        refine ga_bipush (nI 12) dX10_weighs_90 (by decide) ?_
        refine ga_iload 6 dX10_weighs_92 rfl ?_
        refine ga_iadd dX10_weighs_94 ?_
        refine ga_iload 7 dX10_weighs_95 rfl ?_
        refine ga_if_eq 110 dX10_weighs_97 (by decide) (fun c_97 => absurd c_97 (by decide)) (fun c_97 => ?_)
        refine ga_aload_n 0 dX10_weighs_100 rfl ?_
        refine ga_get kf_X10_48 (sh161 _) rfl dX10_weighs_101 ?_
        refine ga_iload 6 dX10_weighs_104 rfl ?_
        refine ge_ialdE sh173 (gt_ixn (by omega)) (hrw.trans (gx_er_p hnz)) dX10_weighs_106 ?_
        refine ga_goto 111 dX10_weighs_107 (by decide) ?_
        refine ga_top (gx_seat (ρ t)) (gx_seat_p hnz).symm ?_
        refine gmw_S2 sh165 hT kw (by omega) dX10_weighs_111 (fun w_111 o_111 hT => ?_)
        refine gs_iincN 6 1 [(0, _), (1, _), (2, _), (3, _), (4, _), (5, _), (6, _), (7, _)] dX10_weighs_112 rfl (by decide) (by decide) rfl rfl ?_
        refine ga_goto 13 dX10_weighs_115 (by decide) ?_
        refine ga_take 7 ?_
        rw [gx_ppv_s] at hT
        exact ih (t + 1) (by omega) _ (fun b hb => (o_111 b hb).trans (o1 b hb)) hT
  exact loop (K 0 2) 0 (by omega) _ oL (by rw [gx_ppv_0]; exact hT)
set_option maxRecDepth 100000 in
set_option maxHeartbeats 4000000 in
theorem c_X10_mayBe {l : Launch} {G : gt_G} {n : Nat} {w : gt_W} {K : gx_K} {p u : Nat} {ρ : Nat → Nat} (hM : gx_mc (w 162) K) (kw : gx_KW K) (hp : p < 6) (hv : ∀ q, q < p → ρ q ≤ K 0 1) (hrow : ∀ q, q < p → w 173 q = gx_er (K 0 1) (ρ q)) (hu : w 173 p = nI u) (hu9 : u ≤ K 0 1) : gt_C l G yX10_mayBe cX10_mayBe 4 (some .boolean) 1 0 0 n [.ref 161, .int (nI p)] (gt_enc w) (some (.int (if u = K 0 1 ∨ gx_fr ρ p u then nI 1 else nI 0))) (gt_enc (w)) := by
  have k1 := kw.2.1
  refine gt_C_of (own := RX10) (nm := "mayBe") rfl rfl (by decide +kernel) (Nat.le_of_ble_eq_true rfl) ?_
  show gt_A _ _ _ _ _ _ _ _ _ _ _ [(0, .ref 161), (1, .int (nI p))] _ _
  refine ga_iconst (nI 1) dX10_mayBe_0 (by decide) ?_
  refine gs_istore_n [(0, _), (1, _), (2, _)] dX10_mayBe_1 (by decide) rfl rfl ?_
  refine ga_iconst (nI 0) dX10_mayBe_2 (by decide) ?_
  refine gs_istore_n [(0, _), (1, _), (2, _), (3, _)] dX10_mayBe_3 (by decide) rfl rfl ?_
  have loop : ∀ j t, t + j = p → gt_A l G RX10 "mayBe" cX10_mayBe 4 (some .boolean) (gt_rm 1 0 0) (gt_Z G (n + 0) 0 0 (some (.int (if u = K 0 1 ∨ gx_fr ρ p u then nI 1 else nI 0))) (gt_enc (w))) (n, 0, 0) 4 [(0, .ref 161), (1, .int (nI p)), (2, .int (if u = K 0 1 ∨ gx_fr ρ t u then nI 1 else nI 0)), (3, .int (nI t))] [] (gt_enc w) := by
    intro j
    induction j with
    | zero =>
      intro t ht
      have et : t = p := by omega
      refine ga_iload_n 3 dX10_mayBe_4 rfl ?_
      refine ga_iload_n 1 dX10_mayBe_5 rfl ?_
      refine ga_icmp_ge 55 dX10_mayBe_6 (by decide) (fun c_6 => ?_) (fun c_6 => absurd (nI_le (by omega) (by omega)) c_6)
      refine ga_iload_n 2 dX10_mayBe_55 rfl ?_
      exact ga_zret dX10_mayBe_56 (by split <;> rfl) (gv (by rw [et])) rfl
    | succ j ih =>
      intro t ht
      have hvt := hv t (by omega)
      refine ga_iload_n 3 dX10_mayBe_4 rfl ?_
      refine ga_iload_n 1 dX10_mayBe_5 rfl ?_
      refine ga_icmp_ge 55 dX10_mayBe_6 (by decide) (fun c_6 => absurd c_6 (nI_ge (by omega) (by omega))) (fun c_6 => ?_)
      refine ga_iload_n 2 dX10_mayBe_9 rfl ?_
      refine ga_if_eq 47 dX10_mayBe_10 (by decide) (fun c_10 => ?_) (fun c_10 => ?_)
      · have hg : ¬ (u = K 0 1 ∨ gx_fr ρ (t + 1) u) := fun q => gx_if1 c_10 (q.imp id (fun z a ha => z a (by omega)))
        refine ga_iconst (nI 0) dX10_mayBe_47 (by decide) ?_
        refine gs_istore_n [(0, _), (1, _), (2, _), (3, _)] dX10_mayBe_48 (by decide) rfl rfl ?_
        refine gs_iincN 3 1 [(0, _), (1, _), (2, _), (3, _)] dX10_mayBe_49 rfl (by decide) (by decide) rfl rfl ?_
        refine ga_goto 4 dX10_mayBe_52 (by decide) ?_
        have h9 := ih (t + 1) (by omega)
        first | (rw [if_pos hg] at h9; exact h9) | (rw [if_neg hg] at h9; exact h9)
      · have hg0 := gx_if0 c_10
        refine ga_aload_n 0 dX10_mayBe_13 rfl ?_
        refine ga_get kf_X10_48 (sh161 _) rfl dX10_mayBe_14 ?_
        refine ga_iload_n 1 dX10_mayBe_17 rfl ?_
        refine ge_ialdE sh173 (gt_ixn (by omega)) hu dX10_mayBe_18 ?_
        refine ga_aload_n 0 dX10_mayBe_19 rfl ?_
        refine ga_get kf_X10_7 (sh161 _) rfl dX10_mayBe_20 ?_
        refine ga_iconst (nI 1) dX10_mayBe_23 (by decide) ?_
        refine gm_c1 hM dX10_mayBe_24 ?_
        refine ga_icmp_eq 43 dX10_mayBe_25 (by decide) (fun c_25 => ?_) (fun c_25 => ?_)
        · have hg : u = K 0 1 ∨ gx_fr ρ (t + 1) u := Or.inl ((nI_eq (by omega) (by omega)).mp c_25)
          refine ga_iconst (nI 1) dX10_mayBe_43 (by decide) ?_
          refine ga_goto 48 dX10_mayBe_44 (by decide) ?_
          refine gs_istore_n [(0, _), (1, _), (2, _), (3, _)] dX10_mayBe_48 (by decide) rfl rfl ?_
          refine gs_iincN 3 1 [(0, _), (1, _), (2, _), (3, _)] dX10_mayBe_49 rfl (by decide) (by decide) rfl rfl ?_
          refine ga_goto 4 dX10_mayBe_52 (by decide) ?_
          have h9 := ih (t + 1) (by omega)
          first | (rw [if_pos hg] at h9; exact h9) | (rw [if_neg hg] at h9; exact h9)
        · have huT : u < K 0 1 := by
            rcases Nat.lt_or_ge u (K 0 1) with q | q
            · exact q
            · exact absurd (congrArg nI (show u = K 0 1 by omega)) c_25
          refine ga_aload_n 0 dX10_mayBe_28 rfl ?_
          refine ga_get kf_X10_48 (sh161 _) rfl dX10_mayBe_29 ?_
          refine ga_iload_n 3 dX10_mayBe_32 rfl ?_
          refine ge_ialdE sh173 (gt_ixn (by omega)) (hrow t (by omega)) dX10_mayBe_33 ?_
          refine ga_aload_n 0 dX10_mayBe_34 rfl ?_
          refine ga_get kf_X10_48 (sh161 _) rfl dX10_mayBe_35 ?_
          refine ga_iload_n 1 dX10_mayBe_38 rfl ?_
          refine ge_ialdE sh173 (gt_ixn (by omega)) hu dX10_mayBe_39 ?_
          refine ga_icmp_eq 47 dX10_mayBe_40 (by decide) (fun c_40 => ?_) (fun c_40 => ?_)
          · have hg : ¬ (u = K 0 1 ∨ gx_fr ρ (t + 1) u) := fun q => q.elim (fun q => by omega) (fun q => q t (by omega) ((gx_er_eq hvt k1 huT).mp c_40))
            refine ga_iconst (nI 0) dX10_mayBe_47 (by decide) ?_
            refine gs_istore_n [(0, _), (1, _), (2, _), (3, _)] dX10_mayBe_48 (by decide) rfl rfl ?_
            refine gs_iincN 3 1 [(0, _), (1, _), (2, _), (3, _)] dX10_mayBe_49 rfl (by decide) (by decide) rfl rfl ?_
            refine ga_goto 4 dX10_mayBe_52 (by decide) ?_
            have h9 := ih (t + 1) (by omega)
            first | (rw [if_pos hg] at h9; exact h9) | (rw [if_neg hg] at h9; exact h9)
          · have hg : u = K 0 1 ∨ gx_fr ρ (t + 1) u := Or.inr (fun a ha e => by
              by_cases z : a = t
              · exact c_40 ((gx_er_eq hvt k1 huT).mpr (z ▸ e))
              · exact hg0.elim (fun q => by omega) (fun q => q a (by omega) e))
            refine ga_iconst (nI 1) dX10_mayBe_43 (by decide) ?_
            refine ga_goto 48 dX10_mayBe_44 (by decide) ?_
            refine gs_istore_n [(0, _), (1, _), (2, _), (3, _)] dX10_mayBe_48 (by decide) rfl rfl ?_
            refine gs_iincN 3 1 [(0, _), (1, _), (2, _), (3, _)] dX10_mayBe_49 rfl (by decide) (by decide) rfl rfl ?_
            refine ga_goto 4 dX10_mayBe_52 (by decide) ?_
            have h9 := ih (t + 1) (by omega)
            first | (rw [if_pos hg] at h9; exact h9) | (rw [if_neg hg] at h9; exact h9)
  have h9 := loop p 0 (by omega)
  rw [if_pos (Or.inr (fun a ha => absurd ha (Nat.not_lt_zero a)))] at h9
  exact h9
