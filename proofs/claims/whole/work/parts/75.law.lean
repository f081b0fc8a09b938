def R_law : String := "GurdyTideLaw"
def lw_P (b : Addr) (xs : List Int32) (args : Array Value) (s : State) : Prop := args = #[.ref b] ∧ s.IntsAt b xs ∧ xs.length ≤ 320 ∧ (Jvm.Cond.and given_1 narrow_1).before args s = true
def lw_Q (_ : Array Value) (s : State) (o : Outcome) (t : State) : Prop := o = .returned (some (.int 1)) ∧ Framed s o t [] 600000 7302250
def lw_Z (below : List Frame) (a : Array Value) (s : State) : State → Prop := fun t => ∃ o, t.status = .running ∧ Ended t below o ∧ lw_Q a s o t
/-- the law's own end, with 1 on the stack, nothing written that was there before, its room as the claim has it -/
theorem lw_ret {p : Program} {l : Launch} {e : Env} {s : State} {m : MethodId} {below : List Frame} {meth : Method} {c : Code} {b : Nat} (hx : p.tables.exec = Jvm.exec) (hb : c.code = code) (hr : meth.sig.returnType = ret) (hlocks : meth.locks = false) {pc : Nat} {H : Heap} {ls : Array Slot} (hdg : decode code pc = .ok (.ireturn, 1)) : W p l e room_1 s m #[Value.ref b] below meth c H [] 600000 7302250 (lw_Z below #[Value.ref b] s) (F0 m pc ls [.int 1]) := by
  intro T hT X
  obtain ⟨fs, hret, hrun, hended, hW, hframe⟩ := X.leave (v := some (.int 1)) (hlocks := hlocks) (fun h => by rw [hr] at h; cases h)
  have hmeth' : T.vm.method? m = some meth := X.method'
  refine ⟨T.setFrames fs, ?_, .returned (some (.int 1)), hrun, hended, rfl, ⟨_, rfl⟩, hW, hframe⟩
  jvm_step X.here [X.here.top, hx, hb, hdg, hmeth', hr, ret, narrow_b1]
  (try refine ⟨rfl, ?_⟩); (try refine ⟨rfl, ?_⟩)
  first | (intro acts; rw [hret _ acts rfl rfl rfl]) | rw [hret _ _ rfl rfl rfl]
  exact Steps.refl _
/-- what holds at the law's entry: the machine, the code, the tables' words (any of lw_tbl by 'hts w (by decide +kernel)'), the script of L ints xs at the cell b, what the Statement gives of the start (any of its parts by flat_of_before) -/
def lw_At (p : Program) (s : State) (m : MethodId) (meth : Method) (c : Code) (b L : Nat) (xs : Nat → Int32) : Prop :=
  p.tables.exec = Jvm.exec ∧ c.code = code ∧ meth.sig.returnType = ret ∧ c.maxLocals = 4 ∧ s.vm.findClass R_law = some m.cls ∧ (∀ w ∈ lw_tbl, w.before #[Value.ref b] s = true) ∧ va_X b L xs s s.heap ∧ b < s.heap.size ∧ meth.locks = false ∧ (Jvm.Cond.and given_1 narrow_1).before #[Value.ref b] s = true
/-- the law's end: with the Statement's own arguments, and nothing old written -/
def gt_ZL (b B : Nat) : gt_Zt := fun below args s t => args = #[Value.ref b] → s.heap.size ≤ B → lw_Z below args s t
theorem gl_ret {l : Launch} {G : gt_G} {nm : String} {N : Nat × Nat × Nat} {pc : Nat} {lv : List (Nat × Value)} {h : gt_H} (hd : decode cL_law pc = .ok (.ireturn, 1)) (h1 : N.2.1 ≤ 600000) (h2 : N.2.2 ≤ 7302250) : gt_A l G RL nm cL_law 4 (some .boolean) room_1 (gt_ZL G.2.2.1 (gt_B G)) N pc lv [.int (nI 1)] h :=
  fun p e s m args below meth c H locs ls X hR hL hl => by
    by_cases ha : args = #[Value.ref G.2.2.1]
    · by_cases hb : s.heap.size ≤ gt_B G
      · subst ha
        have k : W p l e room_1 s m #[Value.ref G.2.2.1] below meth c H locs N.2.1 N.2.2 (lw_Z below #[Value.ref G.2.2.1] s) (F0 m pc ls [.int 1]) := va_forget (fun q hq => Nat.le_trans hb (hL q hq)) (W.widen h1 h2 (lw_ret X.1 X.2.1 X.2.2.2.1 X.2.2.2.2.1 hd))
        intro T hT X1
        obtain ⟨t, a1, b1⟩ := k T hT X1
        exact ⟨t, a1, fun _ _ => b1⟩
      · intro T hT X1; exact ⟨_, Steps.refl _, fun _ h => absurd h hb⟩
    · intro T hT X1; exact ⟨_, Steps.refl _, fun h => absurd h ha⟩
theorem gt_lroom {d : Nat} (h : d ≤ 20) : gt_rc room_1 d 175 4466 0 0 := ⟨by show d + 1 ≤ 2048; omega, by show 40 * (d + 1) ≤ 84000; omega, by show 175 + 0 ≤ 600000; decide, by show 4466 + 0 ≤ 7302250; decide⟩
theorem gx_M_hi {w w' : gt_W} {K V : gx_K} {m : Int32} {hs : Nat → gx_K × Int32} {cnt : Nat} {im : Nat → Nat × (gx_K × Int32) × Nat} {sd : Nat} {x : Nat → Nat} {Lt fp : Nat} {Q : gx_K} (e : ∀ a, 161 ≤ a → w' a = w a) (h : gx_M w K V m hs cnt im sd x Lt fp Q) : gx_M w' K V m hs cnt im sd x Lt fp Q := by
  unfold gx_M gx_mn at *
  rw [e 161 (by decide), e 162 (by decide), e 164 (by decide), e 166 (by decide), e 167 (by decide), e 168 (by decide), e 169 (by decide), e 170 (by decide), e 171 (by decide), e 172 (by decide)]
  exact h
theorem gx_XZ_lo {w w' : gt_W} {c : Nat} {S : gx_Z} (e : ∀ a, a < 161 → w' a = w a) (h : gx_XZ w c S) : gx_XZ w' c S := gx_X_eq (fun a h1 _ _ => e a h1) h
/-- the law's body at pc, i ints of the script done -/
abbrev gt_lw (l : Launch) (G : gt_G) (nm : String) (i pc : Nat) (w : gt_W) : Prop := gt_A l G RL nm cL_law 4 (some .boolean) room_1 (gt_ZL G.2.2.1 (gt_B G)) (175, 175, 4466) pc [(0, .ref 0), (1, .ref 1), (2, .ref 161), (3, .int (nI i))] [] (gt_enc w)
set_option maxRecDepth 100000 in
set_option maxHeartbeats 4000000 in
theorem gl_c0 {l : Launch} {G : gt_G} {nm : String} {i : Nat} {w : gt_W} {c : Nat} {K V : gx_K} {m : Int32} {hs : Nat → gx_K × Int32} {cnt : Nat} {im : Nat → Nat × (gx_K × Int32) × Nat} {sd : Nat} {x : Nat → Nat} {Lt fp : Nat} {Q : gx_K} (hi : i + 5 ≤ G.2.2.2.2.1) (hL : G.2.2.2.2.1 ≤ 320) (hX : gx_X w c K V m hs cnt im sd x Lt fp Q) (hM : gx_M w K V m hs cnt im sd x Lt fp Q) (hW : gx_WF K V m hs cnt im sd x Lt fp Q) (kk : ∀ (w' : gt_W) (c' : Nat) (S : gx_Z), gx_XZ w' c' S → gx_MZ w' S → gx_WZ S → gt_lw l G nm i 1078 w') : gt_lw l G nm i 176 w := by
  refine ga_aload_n 1 dL_law_176 rfl ?_
  refine ga_aload_n 0 dL_law_177 rfl ?_
  refine ga_iload_n 3 dL_law_178 rfl ?_
  refine ga_iconst (nI 1) dL_law_179 (by decide) ?_
  refine ga_iadd dL_law_180 ?_
  refine ga_top (nI (i + 1)) (nI_add i 1) ?_
  refine ga_sld (vp_in_nI (by omega) (by omega)) dL_law_181 ?_
  refine gd_V1 km_L_13 kv_X9_feed (c_X9_feed hX hW _) (sh1 _) rfl rfl (gt_lroom (by decide)) (Nat.le_of_ble_eq_true rfl) dL_law_182 (fun r1 w1 q1 => ?_)
  obtain ⟨rfl, ⟨c1, hX1⟩, o1⟩ := q1
  have hM1 := gx_M_hi o1 hM
  refine ga_aload_n 2 dL_law_185 rfl ?_
  refine ga_aload_n 0 dL_law_186 rfl ?_
  refine ga_iload_n 3 dL_law_187 rfl ?_
  refine ga_iconst (nI 1) dL_law_188 (by decide) ?_
  refine ga_iadd dL_law_189 ?_
  refine ga_top (nI (i + 1)) (nI_add i 1) ?_
  refine ga_sld (vp_in_nI (by omega) (by omega)) dL_law_190 ?_
  refine gd_V1 km_L_17 kv_X10_feed (c_X10_feed hM1 hW _) (sh161 _) rfl rfl (gt_lroom (by decide)) (Nat.le_of_ble_eq_true rfl) dL_law_191 (fun r2 w2 q2 => ?_)
  obtain ⟨rfl, hM2, o2⟩ := q2
  refine ga_icmp_eq 1078 dL_law_194 (by decide) (fun c => ?_) (fun c => absurd rfl c)
  exact kk _ _ _ (gx_XZ_lo o2 hX1) hM2 (gx_ws_feed hW _)
set_option maxRecDepth 100000 in
set_option maxHeartbeats 4000000 in
theorem gl_c1 {l : Launch} {G : gt_G} {nm : String} {i : Nat} {w : gt_W} {c : Nat} {K V : gx_K} {m : Int32} {hs : Nat → gx_K × Int32} {cnt : Nat} {im : Nat → Nat × (gx_K × Int32) × Nat} {sd : Nat} {x : Nat → Nat} {Lt fp : Nat} {Q : gx_K} (hi : i + 5 ≤ G.2.2.2.2.1) (hL : G.2.2.2.2.1 ≤ 320) (hX : gx_X w c K V m hs cnt im sd x Lt fp Q) (hM : gx_M w K V m hs cnt im sd x Lt fp Q) (hW : gx_WF K V m hs cnt im sd x Lt fp Q) (kk : ∀ (w' : gt_W) (c' : Nat) (S : gx_Z), gx_XZ w' c' S → gx_MZ w' S → gx_WZ S → gt_lw l G nm i 1078 w') : gt_lw l G nm i 199 w := by
  refine ga_aload_n 1 dL_law_199 rfl ?_
  refine gd_V0 km_L_18 kv_X9_coast (c_X9_coast hX hW) (sh1 _) rfl rfl (gt_lroom (by decide)) (Nat.le_of_ble_eq_true rfl) dL_law_200 (fun r1 w1 q1 => ?_)
  obtain ⟨rfl, ⟨c1, hX1⟩, o1⟩ := q1
  have hM1 := gx_M_hi o1 hM
  refine ga_aload_n 2 dL_law_203 rfl ?_
  refine gd_V0 km_L_22 kv_X10_coast (c_X10_coast hM1 hW) (sh161 _) rfl rfl (gt_lroom (by decide)) (Nat.le_of_ble_eq_true rfl) dL_law_204 (fun r2 w2 q2 => ?_)
  obtain ⟨rfl, hM2, o2⟩ := q2
  refine ga_icmp_eq 1078 dL_law_207 (by decide) (fun c => ?_) (fun c => absurd rfl c)
  exact kk _ _ _ (gx_XZ_lo o2 hX1) hM2 (gx_ws_coast hW)
set_option maxRecDepth 100000 in
set_option maxHeartbeats 4000000 in
theorem gl_c2 {l : Launch} {G : gt_G} {nm : String} {i : Nat} {w : gt_W} {c : Nat} {K V : gx_K} {m : Int32} {hs : Nat → gx_K × Int32} {cnt : Nat} {im : Nat → Nat × (gx_K × Int32) × Nat} {sd : Nat} {x : Nat → Nat} {Lt fp : Nat} {Q : gx_K} (hi : i + 5 ≤ G.2.2.2.2.1) (hL : G.2.2.2.2.1 ≤ 320) (hX : gx_X w c K V m hs cnt im sd x Lt fp Q) (hM : gx_M w K V m hs cnt im sd x Lt fp Q) (hW : gx_WF K V m hs cnt im sd x Lt fp Q) (kk : ∀ (w' : gt_W) (c' : Nat) (S : gx_Z), gx_XZ w' c' S → gx_MZ w' S → gx_WZ S → gt_lw l G nm i 1078 w') : gt_lw l G nm i 212 w := by
  refine ga_aload_n 1 dL_law_212 rfl ?_
  refine gd_V0 km_L_23 kv_X9_fault (c_X9_fault hX hW) (sh1 _) rfl rfl (gt_lroom (by decide)) (Nat.le_of_ble_eq_true rfl) dL_law_213 (fun r1 w1 q1 => ?_)
  obtain ⟨rfl, hX1, o1⟩ := q1
  have hM1 := gx_M_hi o1 hM
  refine ga_aload_n 2 dL_law_216 rfl ?_
  refine gd_V0 km_L_26 kv_X10_fault (c_X10_fault hM1 hW) (sh161 _) rfl rfl (gt_lroom (by decide)) (Nat.le_of_ble_eq_true rfl) dL_law_217 (fun r2 w2 q2 => ?_)
  obtain ⟨rfl, hM2, o2⟩ := q2
  refine ga_icmp_eq 1078 dL_law_220 (by decide) (fun c => ?_) (fun c => absurd rfl c)
  exact kk _ _ (K, (V, m), hs, cnt, im, sd, x, Lt, fp, Q) (gx_XZ_lo (S := (K, (V, m), hs, cnt, im, sd, x, Lt, fp, Q)) o2 hX1) hM2 hW
set_option maxRecDepth 100000 in
set_option maxHeartbeats 4000000 in
theorem gl_c3 {l : Launch} {G : gt_G} {nm : String} {i : Nat} {w : gt_W} {c : Nat} {K V : gx_K} {m : Int32} {hs : Nat → gx_K × Int32} {cnt : Nat} {im : Nat → Nat × (gx_K × Int32) × Nat} {sd : Nat} {x : Nat → Nat} {Lt fp : Nat} {Q : gx_K} (hi : i + 5 ≤ G.2.2.2.2.1) (hL : G.2.2.2.2.1 ≤ 320) (hX : gx_X w c K V m hs cnt im sd x Lt fp Q) (hM : gx_M w K V m hs cnt im sd x Lt fp Q) (hW : gx_WF K V m hs cnt im sd x Lt fp Q) (kk : ∀ (w' : gt_W) (c' : Nat) (S : gx_Z), gx_XZ w' c' S → gx_MZ w' S → gx_WZ S → gt_lw l G nm i 1078 w') : gt_lw l G nm i 225 w := by
  refine ga_aload_n 1 dL_law_225 rfl ?_
  refine ga_aload_n 0 dL_law_226 rfl ?_
  refine ga_iload_n 3 dL_law_227 rfl ?_
  refine ga_iconst (nI 1) dL_law_228 (by decide) ?_
  refine ga_iadd dL_law_229 ?_
  refine ga_top (nI (i + 1)) (nI_add i 1) ?_
  refine ga_sld (vp_in_nI (by omega) (by omega)) dL_law_230 ?_
  refine gd_V1 km_L_27 kv_X9_told (c_X9_told hX hW _) (sh1 _) rfl rfl (gt_lroom (by decide)) (Nat.le_of_ble_eq_true rfl) dL_law_231 (fun r1 w1 q1 => ?_)
  obtain ⟨rfl, hX1, o1⟩ := q1
  have hM1 := gx_M_hi o1 hM
  refine ga_aload_n 2 dL_law_234 rfl ?_
  refine ga_aload_n 0 dL_law_235 rfl ?_
  refine ga_iload_n 3 dL_law_236 rfl ?_
  refine ga_iconst (nI 1) dL_law_237 (by decide) ?_
  refine ga_iadd dL_law_238 ?_
  refine ga_top (nI (i + 1)) (nI_add i 1) ?_
  refine ga_sld (vp_in_nI (by omega) (by omega)) dL_law_239 ?_
  refine gd_V1 km_L_30 kv_X10_told (c_X10_told hM1 hW _) (sh161 _) rfl rfl (gt_lroom (by decide)) (Nat.le_of_ble_eq_true rfl) dL_law_240 (fun r2 w2 q2 => ?_)
  obtain ⟨rfl, hM2, o2⟩ := q2
  refine ga_icmp_eq 1078 dL_law_243 (by decide) (fun c => ?_) (fun c => absurd rfl c)
  exact kk _ _ (K, (V, m), hs, cnt, im, sd, x, Lt, fp, Q) (gx_XZ_lo (S := (K, (V, m), hs, cnt, im, sd, x, Lt, fp, Q)) o2 hX1) hM2 hW
set_option maxRecDepth 100000 in
set_option maxHeartbeats 4000000 in
theorem gl_c4 {l : Launch} {G : gt_G} {nm : String} {i : Nat} {w : gt_W} {c : Nat} {K V : gx_K} {m : Int32} {hs : Nat → gx_K × Int32} {cnt : Nat} {im : Nat → Nat × (gx_K × Int32) × Nat} {sd : Nat} {x : Nat → Nat} {Lt fp : Nat} {Q : gx_K} (hi : i + 5 ≤ G.2.2.2.2.1) (hL : G.2.2.2.2.1 ≤ 320) (hX : gx_X w c K V m hs cnt im sd x Lt fp Q) (hM : gx_M w K V m hs cnt im sd x Lt fp Q) (hW : gx_WF K V m hs cnt im sd x Lt fp Q) (kk : ∀ (w' : gt_W) (c' : Nat) (S : gx_Z), gx_XZ w' c' S → gx_MZ w' S → gx_WZ S → gt_lw l G nm i 1078 w') : gt_lw l G nm i 248 w := by
  refine ga_aload_n 1 dL_law_248 rfl ?_
  refine ga_aload_n 0 dL_law_249 rfl ?_
  refine ga_iload_n 3 dL_law_250 rfl ?_
  refine ga_iconst (nI 1) dL_law_251 (by decide) ?_
  refine ga_iadd dL_law_252 ?_
  refine ga_top (nI (i + 1)) (nI_add i 1) ?_
  refine ga_sld (vp_in_nI (by omega) (by omega)) dL_law_253 ?_
  refine ga_aload_n 0 dL_law_254 rfl ?_
  refine ga_iload_n 3 dL_law_255 rfl ?_
  refine ga_iconst (nI 2) dL_law_256 (by decide) ?_
  refine ga_iadd dL_law_257 ?_
  refine ga_top (nI (i + 2)) (nI_add i 2) ?_
  refine ga_sld (vp_in_nI (by omega) (by omega)) dL_law_258 ?_
  refine gd_V2 km_L_31 kv_X9_cell (c_X9_cell hX hW _ _) (sh1 _) rfl rfl (gt_lroom (by decide)) (Nat.le_of_ble_eq_true rfl) dL_law_259 (fun r1 w1 q1 => ?_)
  obtain ⟨rfl, hX1, o1⟩ := q1
  have hM1 := gx_M_hi o1 hM
  refine ga_aload_n 2 dL_law_262 rfl ?_
  refine ga_aload_n 0 dL_law_263 rfl ?_
  refine ga_iload_n 3 dL_law_264 rfl ?_
  refine ga_iconst (nI 1) dL_law_265 (by decide) ?_
  refine ga_iadd dL_law_266 ?_
  refine ga_top (nI (i + 1)) (nI_add i 1) ?_
  refine ga_sld (vp_in_nI (by omega) (by omega)) dL_law_267 ?_
  refine ga_aload_n 0 dL_law_268 rfl ?_
  refine ga_iload_n 3 dL_law_269 rfl ?_
  refine ga_iconst (nI 2) dL_law_270 (by decide) ?_
  refine ga_iadd dL_law_271 ?_
  refine ga_top (nI (i + 2)) (nI_add i 2) ?_
  refine ga_sld (vp_in_nI (by omega) (by omega)) dL_law_272 ?_
  refine gd_V2 km_L_35 kv_X10_cell (c_X10_cell hM1 hW _ _) (sh161 _) rfl rfl (gt_lroom (by decide)) (Nat.le_of_ble_eq_true rfl) dL_law_273 (fun r2 w2 q2 => ?_)
  obtain ⟨rfl, hM2, o2⟩ := q2
  refine ga_icmp_eq 1078 dL_law_276 (by decide) (fun c => ?_) (fun c => absurd rfl c)
  exact kk _ _ (K, (V, m), hs, cnt, im, sd, x, Lt, fp, Q) (gx_XZ_lo (S := (K, (V, m), hs, cnt, im, sd, x, Lt, fp, Q)) o2 hX1) hM2 hW
set_option maxRecDepth 100000 in
set_option maxHeartbeats 4000000 in
theorem gl_c5 {l : Launch} {G : gt_G} {nm : String} {i : Nat} {w : gt_W} {c : Nat} {K V : gx_K} {m : Int32} {hs : Nat → gx_K × Int32} {cnt : Nat} {im : Nat → Nat × (gx_K × Int32) × Nat} {sd : Nat} {x : Nat → Nat} {Lt fp : Nat} {Q : gx_K} (hi : i + 5 ≤ G.2.2.2.2.1) (hL : G.2.2.2.2.1 ≤ 320) (hX : gx_X w c K V m hs cnt im sd x Lt fp Q) (hM : gx_M w K V m hs cnt im sd x Lt fp Q) (hW : gx_WF K V m hs cnt im sd x Lt fp Q) (kk : ∀ (w' : gt_W) (c' : Nat) (S : gx_Z), gx_XZ w' c' S → gx_MZ w' S → gx_WZ S → gt_lw l G nm i 1078 w') : gt_lw l G nm i 281 w := by
  refine ga_aload_n 1 dL_law_281 rfl ?_
  refine ga_aload_n 0 dL_law_282 rfl ?_
  refine ga_iload_n 3 dL_law_283 rfl ?_
  refine ga_iconst (nI 1) dL_law_284 (by decide) ?_
  refine ga_iadd dL_law_285 ?_
  refine ga_top (nI (i + 1)) (nI_add i 1) ?_
  refine ga_sld (vp_in_nI (by omega) (by omega)) dL_law_286 ?_
  refine ga_aload_n 0 dL_law_287 rfl ?_
  refine ga_iload_n 3 dL_law_288 rfl ?_
  refine ga_iconst (nI 2) dL_law_289 (by decide) ?_
  refine ga_iadd dL_law_290 ?_
  refine ga_top (nI (i + 2)) (nI_add i 2) ?_
  refine ga_sld (vp_in_nI (by omega) (by omega)) dL_law_291 ?_
  refine gd_V2 km_L_36 kv_X9_tower (c_X9_tower hX hW _ _) (sh1 _) rfl rfl (gt_lroom (by decide)) (Nat.le_of_ble_eq_true rfl) dL_law_292 (fun r1 w1 q1 => ?_)
  obtain ⟨rfl, hX1, o1⟩ := q1
  have hM1 := gx_M_hi o1 hM
  refine ga_aload_n 2 dL_law_295 rfl ?_
  refine ga_aload_n 0 dL_law_296 rfl ?_
  refine ga_iload_n 3 dL_law_297 rfl ?_
  refine ga_iconst (nI 1) dL_law_298 (by decide) ?_
  refine ga_iadd dL_law_299 ?_
  refine ga_top (nI (i + 1)) (nI_add i 1) ?_
  refine ga_sld (vp_in_nI (by omega) (by omega)) dL_law_300 ?_
  refine ga_aload_n 0 dL_law_301 rfl ?_
  refine ga_iload_n 3 dL_law_302 rfl ?_
  refine ga_iconst (nI 2) dL_law_303 (by decide) ?_
  refine ga_iadd dL_law_304 ?_
  refine ga_top (nI (i + 2)) (nI_add i 2) ?_
  refine ga_sld (vp_in_nI (by omega) (by omega)) dL_law_305 ?_
  refine gd_V2 km_L_39 kv_X10_tower (c_X10_tower hM1 hW _ _) (sh161 _) rfl rfl (gt_lroom (by decide)) (Nat.le_of_ble_eq_true rfl) dL_law_306 (fun r2 w2 q2 => ?_)
  obtain ⟨rfl, hM2, o2⟩ := q2
  refine ga_icmp_eq 1078 dL_law_309 (by decide) (fun c => ?_) (fun c => absurd rfl c)
  exact kk _ _ (K, (V, m), hs, cnt, im, sd, x, Lt, fp, Q) (gx_XZ_lo (S := (K, (V, m), hs, cnt, im, sd, x, Lt, fp, Q)) o2 hX1) hM2 hW
set_option maxRecDepth 100000 in
set_option maxHeartbeats 4000000 in
theorem gl_c6 {l : Launch} {G : gt_G} {nm : String} {i : Nat} {w : gt_W} {c : Nat} {K V : gx_K} {m : Int32} {hs : Nat → gx_K × Int32} {cnt : Nat} {im : Nat → Nat × (gx_K × Int32) × Nat} {sd : Nat} {x : Nat → Nat} {Lt fp : Nat} {Q : gx_K} (hi : i + 5 ≤ G.2.2.2.2.1) (hL : G.2.2.2.2.1 ≤ 320) (hX : gx_X w c K V m hs cnt im sd x Lt fp Q) (hM : gx_M w K V m hs cnt im sd x Lt fp Q) (hW : gx_WF K V m hs cnt im sd x Lt fp Q) (kk : ∀ (w' : gt_W) (c' : Nat) (S : gx_Z), gx_XZ w' c' S → gx_MZ w' S → gx_WZ S → gt_lw l G nm i 1078 w') : gt_lw l G nm i 314 w := by
  refine ga_aload_n 1 dL_law_314 rfl ?_
  refine ga_aload_n 0 dL_law_315 rfl ?_
  refine ga_iload_n 3 dL_law_316 rfl ?_
  refine ga_iconst (nI 1) dL_law_317 (by decide) ?_
  refine ga_iadd dL_law_318 ?_
  refine ga_top (nI (i + 1)) (nI_add i 1) ?_
  refine ga_sld (vp_in_nI (by omega) (by omega)) dL_law_319 ?_
  refine ga_aload_n 0 dL_law_320 rfl ?_
  refine ga_iload_n 3 dL_law_321 rfl ?_
  refine ga_iconst (nI 2) dL_law_322 (by decide) ?_
  refine ga_iadd dL_law_323 ?_
  refine ga_top (nI (i + 2)) (nI_add i 2) ?_
  refine ga_sld (vp_in_nI (by omega) (by omega)) dL_law_324 ?_
  refine gd_V2 km_L_40 kv_X9_player (c_X9_player hX hW _ _) (sh1 _) rfl rfl (gt_lroom (by decide)) (Nat.le_of_ble_eq_true rfl) dL_law_325 (fun r1 w1 q1 => ?_)
  obtain ⟨rfl, hX1, o1⟩ := q1
  have hM1 := gx_M_hi o1 hM
  refine ga_aload_n 2 dL_law_328 rfl ?_
  refine ga_aload_n 0 dL_law_329 rfl ?_
  refine ga_iload_n 3 dL_law_330 rfl ?_
  refine ga_iconst (nI 1) dL_law_331 (by decide) ?_
  refine ga_iadd dL_law_332 ?_
  refine ga_top (nI (i + 1)) (nI_add i 1) ?_
  refine ga_sld (vp_in_nI (by omega) (by omega)) dL_law_333 ?_
  refine ga_aload_n 0 dL_law_334 rfl ?_
  refine ga_iload_n 3 dL_law_335 rfl ?_
  refine ga_iconst (nI 2) dL_law_336 (by decide) ?_
  refine ga_iadd dL_law_337 ?_
  refine ga_top (nI (i + 2)) (nI_add i 2) ?_
  refine ga_sld (vp_in_nI (by omega) (by omega)) dL_law_338 ?_
  refine gd_V2 km_L_43 kv_X10_player (c_X10_player hM1 hW _ _) (sh161 _) rfl rfl (gt_lroom (by decide)) (Nat.le_of_ble_eq_true rfl) dL_law_339 (fun r2 w2 q2 => ?_)
  obtain ⟨rfl, hM2, o2⟩ := q2
  refine ga_icmp_eq 1078 dL_law_342 (by decide) (fun c => ?_) (fun c => absurd rfl c)
  exact kk _ _ (K, (V, m), hs, cnt, im, sd, x, Lt, fp, Q) (gx_XZ_lo (S := (K, (V, m), hs, cnt, im, sd, x, Lt, fp, Q)) o2 hX1) hM2 hW
set_option maxRecDepth 100000 in
set_option maxHeartbeats 4000000 in
theorem gl_c7 {l : Launch} {G : gt_G} {nm : String} {i : Nat} {w : gt_W} {c : Nat} {K V : gx_K} {m : Int32} {hs : Nat → gx_K × Int32} {cnt : Nat} {im : Nat → Nat × (gx_K × Int32) × Nat} {sd : Nat} {x : Nat → Nat} {Lt fp : Nat} {Q : gx_K} (hi : i + 5 ≤ G.2.2.2.2.1) (hL : G.2.2.2.2.1 ≤ 320) (hX : gx_X w c K V m hs cnt im sd x Lt fp Q) (hM : gx_M w K V m hs cnt im sd x Lt fp Q) (hW : gx_WF K V m hs cnt im sd x Lt fp Q) (kk : ∀ (w' : gt_W) (c' : Nat) (S : gx_Z), gx_XZ w' c' S → gx_MZ w' S → gx_WZ S → gt_lw l G nm i 1078 w') : gt_lw l G nm i 347 w := by
  refine ga_aload_n 1 dL_law_347 rfl ?_
  refine ga_aload_n 0 dL_law_348 rfl ?_
  refine ga_iload_n 3 dL_law_349 rfl ?_
  refine ga_iconst (nI 1) dL_law_350 (by decide) ?_
  refine ga_iadd dL_law_351 ?_
  refine ga_top (nI (i + 1)) (nI_add i 1) ?_
  refine ga_sld (vp_in_nI (by omega) (by omega)) dL_law_352 ?_
  refine ga_aload_n 0 dL_law_353 rfl ?_
  refine ga_iload_n 3 dL_law_354 rfl ?_
  refine ga_iconst (nI 2) dL_law_355 (by decide) ?_
  refine ga_iadd dL_law_356 ?_
  refine ga_top (nI (i + 2)) (nI_add i 2) ?_
  refine ga_sld (vp_in_nI (by omega) (by omega)) dL_law_357 ?_
  refine gd_V2 km_L_44 kv_X9_boat (c_X9_boat hX hW _ _) (sh1 _) rfl rfl (gt_lroom (by decide)) (Nat.le_of_ble_eq_true rfl) dL_law_358 (fun r1 w1 q1 => ?_)
  obtain ⟨rfl, hX1, o1⟩ := q1
  have hM1 := gx_M_hi o1 hM
  refine ga_aload_n 2 dL_law_361 rfl ?_
  refine ga_aload_n 0 dL_law_362 rfl ?_
  refine ga_iload_n 3 dL_law_363 rfl ?_
  refine ga_iconst (nI 1) dL_law_364 (by decide) ?_
  refine ga_iadd dL_law_365 ?_
  refine ga_top (nI (i + 1)) (nI_add i 1) ?_
  refine ga_sld (vp_in_nI (by omega) (by omega)) dL_law_366 ?_
  refine ga_aload_n 0 dL_law_367 rfl ?_
  refine ga_iload_n 3 dL_law_368 rfl ?_
  refine ga_iconst (nI 2) dL_law_369 (by decide) ?_
  refine ga_iadd dL_law_370 ?_
  refine ga_top (nI (i + 2)) (nI_add i 2) ?_
  refine ga_sld (vp_in_nI (by omega) (by omega)) dL_law_371 ?_
  refine gd_V2 km_L_47 kv_X10_boat (c_X10_boat hM1 hW _ _) (sh161 _) rfl rfl (gt_lroom (by decide)) (Nat.le_of_ble_eq_true rfl) dL_law_372 (fun r2 w2 q2 => ?_)
  obtain ⟨rfl, hM2, o2⟩ := q2
  refine ga_icmp_eq 1078 dL_law_375 (by decide) (fun c => ?_) (fun c => absurd rfl c)
  exact kk _ _ (K, (V, m), hs, cnt, im, sd, x, Lt, fp, Q) (gx_XZ_lo (S := (K, (V, m), hs, cnt, im, sd, x, Lt, fp, Q)) o2 hX1) hM2 hW
set_option maxRecDepth 100000 in
set_option maxHeartbeats 4000000 in
theorem gl_c8 {l : Launch} {G : gt_G} {nm : String} {i : Nat} {w : gt_W} {c : Nat} {K V : gx_K} {m : Int32} {hs : Nat → gx_K × Int32} {cnt : Nat} {im : Nat → Nat × (gx_K × Int32) × Nat} {sd : Nat} {x : Nat → Nat} {Lt fp : Nat} {Q : gx_K} (hi : i + 5 ≤ G.2.2.2.2.1) (hL : G.2.2.2.2.1 ≤ 320) (hX : gx_X w c K V m hs cnt im sd x Lt fp Q) (hM : gx_M w K V m hs cnt im sd x Lt fp Q) (hW : gx_WF K V m hs cnt im sd x Lt fp Q) (kk : ∀ (w' : gt_W) (c' : Nat) (S : gx_Z), gx_XZ w' c' S → gx_MZ w' S → gx_WZ S → gt_lw l G nm i 1078 w') : gt_lw l G nm i 380 w := by
  refine ga_aload_n 1 dL_law_380 rfl ?_
  refine ga_aload_n 0 dL_law_381 rfl ?_
  refine ga_iload_n 3 dL_law_382 rfl ?_
  refine ga_iconst (nI 1) dL_law_383 (by decide) ?_
  refine ga_iadd dL_law_384 ?_
  refine ga_top (nI (i + 1)) (nI_add i 1) ?_
  refine ga_sld (vp_in_nI (by omega) (by omega)) dL_law_385 ?_
  refine gd_V1 km_L_48 kv_X9_hour (c_X9_hour hX hW _) (sh1 _) rfl rfl (gt_lroom (by decide)) (Nat.le_of_ble_eq_true rfl) dL_law_386 (fun r1 w1 q1 => ?_)
  obtain ⟨rfl, ⟨c1, hX1⟩, o1⟩ := q1
  have hM1 := gx_M_hi o1 hM
  refine ga_aload_n 2 dL_law_389 rfl ?_
  refine ga_aload_n 0 dL_law_390 rfl ?_
  refine ga_iload_n 3 dL_law_391 rfl ?_
  refine ga_iconst (nI 1) dL_law_392 (by decide) ?_
  refine ga_iadd dL_law_393 ?_
  refine ga_top (nI (i + 1)) (nI_add i 1) ?_
  refine ga_sld (vp_in_nI (by omega) (by omega)) dL_law_394 ?_
  refine gd_V1 km_L_51 kv_X10_hour (c_X10_hour hM1 hW _) (sh161 _) rfl rfl (gt_lroom (by decide)) (Nat.le_of_ble_eq_true rfl) dL_law_395 (fun r2 w2 q2 => ?_)
  obtain ⟨rfl, hM2, o2⟩ := q2
  refine ga_icmp_eq 1078 dL_law_398 (by decide) (fun c => ?_) (fun c => absurd rfl c)
  exact kk _ _ _ (gx_XZ_lo o2 hX1) hM2 (gx_ws_hour hW _)
set_option maxRecDepth 100000 in
set_option maxHeartbeats 4000000 in
theorem gl_c9 {l : Launch} {G : gt_G} {nm : String} {i : Nat} {w : gt_W} {c : Nat} {K V : gx_K} {m : Int32} {hs : Nat → gx_K × Int32} {cnt : Nat} {im : Nat → Nat × (gx_K × Int32) × Nat} {sd : Nat} {x : Nat → Nat} {Lt fp : Nat} {Q : gx_K} (hi : i + 5 ≤ G.2.2.2.2.1) (hL : G.2.2.2.2.1 ≤ 320) (hX : gx_X w c K V m hs cnt im sd x Lt fp Q) (hM : gx_M w K V m hs cnt im sd x Lt fp Q) (hW : gx_WF K V m hs cnt im sd x Lt fp Q) (kk : ∀ (w' : gt_W) (c' : Nat) (S : gx_Z), gx_XZ w' c' S → gx_MZ w' S → gx_WZ S → gt_lw l G nm i 1078 w') : gt_lw l G nm i 403 w := by
  refine ga_aload_n 1 dL_law_403 rfl ?_
  refine ga_aload_n 0 dL_law_404 rfl ?_
  refine ga_iload_n 3 dL_law_405 rfl ?_
  refine ga_iconst (nI 1) dL_law_406 (by decide) ?_
  refine ga_iadd dL_law_407 ?_
  refine ga_top (nI (i + 1)) (nI_add i 1) ?_
  refine ga_sld (vp_in_nI (by omega) (by omega)) dL_law_408 ?_
  refine ga_aload_n 0 dL_law_409 rfl ?_
  refine ga_iload_n 3 dL_law_410 rfl ?_
  refine ga_iconst (nI 2) dL_law_411 (by decide) ?_
  refine ga_iadd dL_law_412 ?_
  refine ga_top (nI (i + 2)) (nI_add i 2) ?_
  refine ga_sld (vp_in_nI (by omega) (by omega)) dL_law_413 ?_
  refine gd_V2 km_L_52 kv_X9_sit (c_X9_sit hX hW _ _) (sh1 _) rfl rfl (gt_lroom (by decide)) (Nat.le_of_ble_eq_true rfl) dL_law_414 (fun r1 w1 q1 => ?_)
  obtain ⟨rfl, ⟨c1, hX1⟩, o1⟩ := q1
  have hM1 := gx_M_hi o1 hM
  refine ga_aload_n 2 dL_law_417 rfl ?_
  refine ga_aload_n 0 dL_law_418 rfl ?_
  refine ga_iload_n 3 dL_law_419 rfl ?_
  refine ga_iconst (nI 1) dL_law_420 (by decide) ?_
  refine ga_iadd dL_law_421 ?_
  refine ga_top (nI (i + 1)) (nI_add i 1) ?_
  refine ga_sld (vp_in_nI (by omega) (by omega)) dL_law_422 ?_
  refine ga_aload_n 0 dL_law_423 rfl ?_
  refine ga_iload_n 3 dL_law_424 rfl ?_
  refine ga_iconst (nI 2) dL_law_425 (by decide) ?_
  refine ga_iadd dL_law_426 ?_
  refine ga_top (nI (i + 2)) (nI_add i 2) ?_
  refine ga_sld (vp_in_nI (by omega) (by omega)) dL_law_427 ?_
  refine gd_V2 km_L_55 kv_X10_sit (c_X10_sit hM1 hW _ _) (sh161 _) rfl rfl (gt_lroom (by decide)) (Nat.le_of_ble_eq_true rfl) dL_law_428 (fun r2 w2 q2 => ?_)
  obtain ⟨rfl, hM2, o2⟩ := q2
  refine ga_icmp_eq 1078 dL_law_431 (by decide) (fun c => ?_) (fun c => absurd rfl c)
  exact kk _ _ _ (gx_XZ_lo o2 hX1) hM2 (gx_ws_sit hW _ _)
set_option maxRecDepth 100000 in
set_option maxHeartbeats 4000000 in
theorem gl_c10 {l : Launch} {G : gt_G} {nm : String} {i : Nat} {w : gt_W} {c : Nat} {K V : gx_K} {m : Int32} {hs : Nat → gx_K × Int32} {cnt : Nat} {im : Nat → Nat × (gx_K × Int32) × Nat} {sd : Nat} {x : Nat → Nat} {Lt fp : Nat} {Q : gx_K} (hi : i + 5 ≤ G.2.2.2.2.1) (hL : G.2.2.2.2.1 ≤ 320) (hX : gx_X w c K V m hs cnt im sd x Lt fp Q) (hM : gx_M w K V m hs cnt im sd x Lt fp Q) (hW : gx_WF K V m hs cnt im sd x Lt fp Q) (kk : ∀ (w' : gt_W) (c' : Nat) (S : gx_Z), gx_XZ w' c' S → gx_MZ w' S → gx_WZ S → gt_lw l G nm i 1078 w') : gt_lw l G nm i 436 w := by
  refine ga_aload_n 1 dL_law_436 rfl ?_
  refine ga_aload_n 0 dL_law_437 rfl ?_
  refine ga_iload_n 3 dL_law_438 rfl ?_
  refine ga_iconst (nI 1) dL_law_439 (by decide) ?_
  refine ga_iadd dL_law_440 ?_
  refine ga_top (nI (i + 1)) (nI_add i 1) ?_
  refine ga_sld (vp_in_nI (by omega) (by omega)) dL_law_441 ?_
  refine gd_V1 km_L_56 kv_X9_rest (c_X9_rest hX hW _) (sh1 _) rfl rfl (gt_lroom (by decide)) (Nat.le_of_ble_eq_true rfl) dL_law_442 (fun r1 w1 q1 => ?_)
  obtain ⟨rfl, ⟨c1, hX1⟩, o1⟩ := q1
  have hM1 := gx_M_hi o1 hM
  refine ga_aload_n 2 dL_law_445 rfl ?_
  refine ga_aload_n 0 dL_law_446 rfl ?_
  refine ga_iload_n 3 dL_law_447 rfl ?_
  refine ga_iconst (nI 1) dL_law_448 (by decide) ?_
  refine ga_iadd dL_law_449 ?_
  refine ga_top (nI (i + 1)) (nI_add i 1) ?_
  refine ga_sld (vp_in_nI (by omega) (by omega)) dL_law_450 ?_
  refine gd_V1 km_L_59 kv_X10_rest (c_X10_rest hM1 hW _) (sh161 _) rfl rfl (gt_lroom (by decide)) (Nat.le_of_ble_eq_true rfl) dL_law_451 (fun r2 w2 q2 => ?_)
  obtain ⟨rfl, hM2, o2⟩ := q2
  refine ga_icmp_eq 1078 dL_law_454 (by decide) (fun c => ?_) (fun c => absurd rfl c)
  exact kk _ _ _ (gx_XZ_lo o2 hX1) hM2 (gx_ws_rest hW _)
set_option maxRecDepth 100000 in
set_option maxHeartbeats 4000000 in
theorem gl_c11 {l : Launch} {G : gt_G} {nm : String} {i : Nat} {w : gt_W} {c : Nat} {K V : gx_K} {m : Int32} {hs : Nat → gx_K × Int32} {cnt : Nat} {im : Nat → Nat × (gx_K × Int32) × Nat} {sd : Nat} {x : Nat → Nat} {Lt fp : Nat} {Q : gx_K} (hi : i + 5 ≤ G.2.2.2.2.1) (hL : G.2.2.2.2.1 ≤ 320) (hX : gx_X w c K V m hs cnt im sd x Lt fp Q) (hM : gx_M w K V m hs cnt im sd x Lt fp Q) (hW : gx_WF K V m hs cnt im sd x Lt fp Q) (kk : ∀ (w' : gt_W) (c' : Nat) (S : gx_Z), gx_XZ w' c' S → gx_MZ w' S → gx_WZ S → gt_lw l G nm i 1078 w') : gt_lw l G nm i 459 w := by
  refine ga_aload_n 1 dL_law_459 rfl ?_
  refine ga_aload_n 0 dL_law_460 rfl ?_
  refine ga_iload_n 3 dL_law_461 rfl ?_
  refine ga_iconst (nI 1) dL_law_462 (by decide) ?_
  refine ga_iadd dL_law_463 ?_
  refine ga_top (nI (i + 1)) (nI_add i 1) ?_
  refine ga_sld (vp_in_nI (by omega) (by omega)) dL_law_464 ?_
  refine ga_aload_n 0 dL_law_465 rfl ?_
  refine ga_iload_n 3 dL_law_466 rfl ?_
  refine ga_iconst (nI 2) dL_law_467 (by decide) ?_
  refine ga_iadd dL_law_468 ?_
  refine ga_top (nI (i + 2)) (nI_add i 2) ?_
  refine ga_sld (vp_in_nI (by omega) (by omega)) dL_law_469 ?_
  refine ga_if_eq 477 dL_law_470 (by decide) (fun c9 => ?_) (fun c9 => ?_)
  · refine ga_iconst (nI 0) dL_law_477 (by decide) ?_
    refine gd_V2 km_L_60 kv_X9_sleep (c_X9_sleep hX hW _ _) (sh1 _) rfl rfl (gt_lroom (by decide)) (Nat.le_of_ble_eq_true rfl) dL_law_478 (fun r1 w1 q1 => ?_)
    obtain ⟨rfl, ⟨c1, hX1⟩, o1⟩ := q1
    have hM1 := gx_M_hi o1 hM
    refine ga_aload_n 2 dL_law_481 rfl ?_
    refine ga_aload_n 0 dL_law_482 rfl ?_
    refine ga_iload_n 3 dL_law_483 rfl ?_
    refine ga_iconst (nI 1) dL_law_484 (by decide) ?_
    refine ga_iadd dL_law_485 ?_
    refine ga_top (nI (i + 1)) (nI_add i 1) ?_
    refine ga_sld (vp_in_nI (by omega) (by omega)) dL_law_486 ?_
    refine ga_aload_n 0 dL_law_487 rfl ?_
    refine ga_iload_n 3 dL_law_488 rfl ?_
    refine ga_iconst (nI 2) dL_law_489 (by decide) ?_
    refine ga_iadd dL_law_490 ?_
    refine ga_top (nI (i + 2)) (nI_add i 2) ?_
    refine ga_sld (vp_in_nI (by omega) (by omega)) dL_law_491 ?_
    refine ga_if_eq 499 dL_law_492 (by decide) (fun c8 => ?_) (fun c8 => absurd c9 c8)
    refine ga_iconst (nI 0) dL_law_499 (by decide) ?_
    refine gd_V2 km_L_64 kv_X10_sleep (c_X10_sleep hM1 hW _ _) (sh161 _) rfl rfl (gt_lroom (by decide)) (Nat.le_of_ble_eq_true rfl) dL_law_500 (fun r2 w2 q2 => ?_)
    obtain ⟨rfl, hM2, o2⟩ := q2
    refine ga_icmp_eq 1078 dL_law_503 (by decide) (fun c => ?_) (fun c => absurd rfl c)
    exact kk _ _ _ (gx_XZ_lo o2 hX1) hM2 (gx_ws_sleep hW _ _)
  · refine ga_iconst (nI 1) dL_law_473 (by decide) ?_
    refine ga_goto 478 dL_law_474 (by decide) ?_
    refine gd_V2 km_L_60 kv_X9_sleep (c_X9_sleep hX hW _ _) (sh1 _) rfl rfl (gt_lroom (by decide)) (Nat.le_of_ble_eq_true rfl) dL_law_478 (fun r1 w1 q1 => ?_)
    obtain ⟨rfl, ⟨c1, hX1⟩, o1⟩ := q1
    have hM1 := gx_M_hi o1 hM
    refine ga_aload_n 2 dL_law_481 rfl ?_
    refine ga_aload_n 0 dL_law_482 rfl ?_
    refine ga_iload_n 3 dL_law_483 rfl ?_
    refine ga_iconst (nI 1) dL_law_484 (by decide) ?_
    refine ga_iadd dL_law_485 ?_
    refine ga_top (nI (i + 1)) (nI_add i 1) ?_
    refine ga_sld (vp_in_nI (by omega) (by omega)) dL_law_486 ?_
    refine ga_aload_n 0 dL_law_487 rfl ?_
    refine ga_iload_n 3 dL_law_488 rfl ?_
    refine ga_iconst (nI 2) dL_law_489 (by decide) ?_
    refine ga_iadd dL_law_490 ?_
    refine ga_top (nI (i + 2)) (nI_add i 2) ?_
    refine ga_sld (vp_in_nI (by omega) (by omega)) dL_law_491 ?_
    refine ga_if_eq 499 dL_law_492 (by decide) (fun c8 => absurd c8 c9) (fun c8 => ?_)
    refine ga_iconst (nI 1) dL_law_495 (by decide) ?_
    refine ga_goto 500 dL_law_496 (by decide) ?_
    refine gd_V2 km_L_64 kv_X10_sleep (c_X10_sleep hM1 hW _ _) (sh161 _) rfl rfl (gt_lroom (by decide)) (Nat.le_of_ble_eq_true rfl) dL_law_500 (fun r2 w2 q2 => ?_)
    obtain ⟨rfl, hM2, o2⟩ := q2
    refine ga_icmp_eq 1078 dL_law_503 (by decide) (fun c => ?_) (fun c => absurd rfl c)
    exact kk _ _ _ (gx_XZ_lo o2 hX1) hM2 (gx_ws_sleep hW _ _)
set_option maxRecDepth 100000 in
set_option maxHeartbeats 4000000 in
theorem gl_c12 {l : Launch} {G : gt_G} {nm : String} {i : Nat} {w : gt_W} {c : Nat} {K V : gx_K} {m : Int32} {hs : Nat → gx_K × Int32} {cnt : Nat} {im : Nat → Nat × (gx_K × Int32) × Nat} {sd : Nat} {x : Nat → Nat} {Lt fp : Nat} {Q : gx_K} (hi : i + 5 ≤ G.2.2.2.2.1) (hL : G.2.2.2.2.1 ≤ 320) (hX : gx_X w c K V m hs cnt im sd x Lt fp Q) (hM : gx_M w K V m hs cnt im sd x Lt fp Q) (hW : gx_WF K V m hs cnt im sd x Lt fp Q) (kk : ∀ (w' : gt_W) (c' : Nat) (S : gx_Z), gx_XZ w' c' S → gx_MZ w' S → gx_WZ S → gt_lw l G nm i 1078 w') : gt_lw l G nm i 508 w := by
  refine ga_aload_n 1 dL_law_508 rfl ?_
  refine ga_aload_n 0 dL_law_509 rfl ?_
  refine ga_iload_n 3 dL_law_510 rfl ?_
  refine ga_iconst (nI 1) dL_law_511 (by decide) ?_
  refine ga_iadd dL_law_512 ?_
  refine ga_top (nI (i + 1)) (nI_add i 1) ?_
  refine ga_sld (vp_in_nI (by omega) (by omega)) dL_law_513 ?_
  refine ga_aload_n 0 dL_law_514 rfl ?_
  refine ga_iload_n 3 dL_law_515 rfl ?_
  refine ga_iconst (nI 2) dL_law_516 (by decide) ?_
  refine ga_iadd dL_law_517 ?_
  refine ga_top (nI (i + 2)) (nI_add i 2) ?_
  refine ga_sld (vp_in_nI (by omega) (by omega)) dL_law_518 ?_
  refine gd_V2 km_L_65 kv_X9_turn (c_X9_turn hX hW _ _) (sh1 _) rfl rfl (gt_lroom (by decide)) (Nat.le_of_ble_eq_true rfl) dL_law_519 (fun r1 w1 q1 => ?_)
  obtain ⟨rfl, ⟨c1, hX1⟩, o1⟩ := q1
  have hM1 := gx_M_hi o1 hM
  refine ga_aload_n 2 dL_law_522 rfl ?_
  refine ga_aload_n 0 dL_law_523 rfl ?_
  refine ga_iload_n 3 dL_law_524 rfl ?_
  refine ga_iconst (nI 1) dL_law_525 (by decide) ?_
  refine ga_iadd dL_law_526 ?_
  refine ga_top (nI (i + 1)) (nI_add i 1) ?_
  refine ga_sld (vp_in_nI (by omega) (by omega)) dL_law_527 ?_
  refine ga_aload_n 0 dL_law_528 rfl ?_
  refine ga_iload_n 3 dL_law_529 rfl ?_
  refine ga_iconst (nI 2) dL_law_530 (by decide) ?_
  refine ga_iadd dL_law_531 ?_
  refine ga_top (nI (i + 2)) (nI_add i 2) ?_
  refine ga_sld (vp_in_nI (by omega) (by omega)) dL_law_532 ?_
  refine gd_V2 km_L_68 kv_X10_turn (c_X10_turn hM1 hW _ _) (sh161 _) rfl rfl (gt_lroom (by decide)) (Nat.le_of_ble_eq_true rfl) dL_law_533 (fun r2 w2 q2 => ?_)
  obtain ⟨rfl, hM2, o2⟩ := q2
  refine ga_icmp_eq 1078 dL_law_536 (by decide) (fun c => ?_) (fun c => absurd rfl c)
  exact kk _ _ _ (gx_XZ_lo o2 hX1) hM2 (gx_ws_turn hW _ _)
set_option maxRecDepth 100000 in
set_option maxHeartbeats 4000000 in
theorem gl_c13 {l : Launch} {G : gt_G} {nm : String} {i : Nat} {w : gt_W} {c : Nat} {K V : gx_K} {m : Int32} {hs : Nat → gx_K × Int32} {cnt : Nat} {im : Nat → Nat × (gx_K × Int32) × Nat} {sd : Nat} {x : Nat → Nat} {Lt fp : Nat} {Q : gx_K} (hi : i + 5 ≤ G.2.2.2.2.1) (hL : G.2.2.2.2.1 ≤ 320) (hX : gx_X w c K V m hs cnt im sd x Lt fp Q) (hM : gx_M w K V m hs cnt im sd x Lt fp Q) (hW : gx_WF K V m hs cnt im sd x Lt fp Q) (kk : ∀ (w' : gt_W) (c' : Nat) (S : gx_Z), gx_XZ w' c' S → gx_MZ w' S → gx_WZ S → gt_lw l G nm i 1078 w') : gt_lw l G nm i 541 w := by
  refine ga_aload_n 1 dL_law_541 rfl ?_
  refine ga_aload_n 0 dL_law_542 rfl ?_
  refine ga_iload_n 3 dL_law_543 rfl ?_
  refine ga_iconst (nI 1) dL_law_544 (by decide) ?_
  refine ga_iadd dL_law_545 ?_
  refine ga_top (nI (i + 1)) (nI_add i 1) ?_
  refine ga_sld (vp_in_nI (by omega) (by omega)) dL_law_546 ?_
  refine gd_V1 km_L_69 kv_X9_send (c_X9_send hX hW _) (sh1 _) rfl rfl (gt_lroom (by decide)) (Nat.le_of_ble_eq_true rfl) dL_law_547 (fun r1 w1 q1 => ?_)
  obtain ⟨rfl, ⟨c1, hX1⟩, o1⟩ := q1
  have hM1 := gx_M_hi o1 hM
  refine ga_aload_n 2 dL_law_550 rfl ?_
  refine ga_aload_n 0 dL_law_551 rfl ?_
  refine ga_iload_n 3 dL_law_552 rfl ?_
  refine ga_iconst (nI 1) dL_law_553 (by decide) ?_
  refine ga_iadd dL_law_554 ?_
  refine ga_top (nI (i + 1)) (nI_add i 1) ?_
  refine ga_sld (vp_in_nI (by omega) (by omega)) dL_law_555 ?_
  refine gd_V1 km_L_72 kv_X10_send (c_X10_send hM1 hW _) (sh161 _) rfl rfl (gt_lroom (by decide)) (Nat.le_of_ble_eq_true rfl) dL_law_556 (fun r2 w2 q2 => ?_)
  obtain ⟨rfl, hM2, o2⟩ := q2
  refine ga_icmp_eq 1078 dL_law_559 (by decide) (fun c => ?_) (fun c => absurd rfl c)
  exact kk _ _ _ (gx_XZ_lo o2 hX1) hM2 (gx_ws_send hW _)
set_option maxRecDepth 100000 in
set_option maxHeartbeats 4000000 in
theorem gl_c14 {l : Launch} {G : gt_G} {nm : String} {i : Nat} {w : gt_W} {c : Nat} {K V : gx_K} {m : Int32} {hs : Nat → gx_K × Int32} {cnt : Nat} {im : Nat → Nat × (gx_K × Int32) × Nat} {sd : Nat} {x : Nat → Nat} {Lt fp : Nat} {Q : gx_K} (hi : i + 5 ≤ G.2.2.2.2.1) (hL : G.2.2.2.2.1 ≤ 320) (hX : gx_X w c K V m hs cnt im sd x Lt fp Q) (hM : gx_M w K V m hs cnt im sd x Lt fp Q) (hW : gx_WF K V m hs cnt im sd x Lt fp Q) (kk : ∀ (w' : gt_W) (c' : Nat) (S : gx_Z), gx_XZ w' c' S → gx_MZ w' S → gx_WZ S → gt_lw l G nm i 1078 w') : gt_lw l G nm i 564 w := by
  refine ga_aload_n 1 dL_law_564 rfl ?_
  refine ga_aload_n 0 dL_law_565 rfl ?_
  refine ga_iload_n 3 dL_law_566 rfl ?_
  refine ga_iconst (nI 1) dL_law_567 (by decide) ?_
  refine ga_iadd dL_law_568 ?_
  refine ga_top (nI (i + 1)) (nI_add i 1) ?_
  refine ga_sld (vp_in_nI (by omega) (by omega)) dL_law_569 ?_
  refine gd_V1 km_L_73 kv_X9_drift (c_X9_drift hX hW _) (sh1 _) rfl rfl (gt_lroom (by decide)) (Nat.le_of_ble_eq_true rfl) dL_law_570 (fun r1 w1 q1 => ?_)
  obtain ⟨rfl, ⟨c1, hX1⟩, o1⟩ := q1
  have hM1 := gx_M_hi o1 hM
  refine ga_aload_n 2 dL_law_573 rfl ?_
  refine ga_aload_n 0 dL_law_574 rfl ?_
  refine ga_iload_n 3 dL_law_575 rfl ?_
  refine ga_iconst (nI 1) dL_law_576 (by decide) ?_
  refine ga_iadd dL_law_577 ?_
  refine ga_top (nI (i + 1)) (nI_add i 1) ?_
  refine ga_sld (vp_in_nI (by omega) (by omega)) dL_law_578 ?_
  refine gd_V1 km_L_76 kv_X10_drift (c_X10_drift hM1 hW _) (sh161 _) rfl rfl (gt_lroom (by decide)) (Nat.le_of_ble_eq_true rfl) dL_law_579 (fun r2 w2 q2 => ?_)
  obtain ⟨rfl, hM2, o2⟩ := q2
  refine ga_icmp_eq 1078 dL_law_582 (by decide) (fun c => ?_) (fun c => absurd rfl c)
  exact kk _ _ _ (gx_XZ_lo o2 hX1) hM2 (gx_ws_drift hW _)
set_option maxRecDepth 100000 in
set_option maxHeartbeats 4000000 in
theorem gl_c15 {l : Launch} {G : gt_G} {nm : String} {i : Nat} {w : gt_W} {c : Nat} {K V : gx_K} {m : Int32} {hs : Nat → gx_K × Int32} {cnt : Nat} {im : Nat → Nat × (gx_K × Int32) × Nat} {sd : Nat} {x : Nat → Nat} {Lt fp : Nat} {Q : gx_K} (hi : i + 5 ≤ G.2.2.2.2.1) (hL : G.2.2.2.2.1 ≤ 320) (hX : gx_X w c K V m hs cnt im sd x Lt fp Q) (hM : gx_M w K V m hs cnt im sd x Lt fp Q) (hW : gx_WF K V m hs cnt im sd x Lt fp Q) (kk : ∀ (w' : gt_W) (c' : Nat) (S : gx_Z), gx_XZ w' c' S → gx_MZ w' S → gx_WZ S → gt_lw l G nm i 1078 w') : gt_lw l G nm i 587 w := by
  refine ga_aload_n 1 dL_law_587 rfl ?_
  refine gd_V0 km_L_77 kv_X9_undo (c_X9_undo hX hW) (sh1 _) rfl rfl (gt_lroom (by decide)) (Nat.le_of_ble_eq_true rfl) dL_law_588 (fun r1 w1 q1 => ?_)
  obtain ⟨rfl, ⟨c1, hX1⟩, o1⟩ := q1
  have hM1 := gx_M_hi o1 hM
  refine ga_aload_n 2 dL_law_591 rfl ?_
  refine gd_V0 km_L_80 kv_X10_undo (c_X10_undo hM1 hW) (sh161 _) rfl rfl (gt_lroom (by decide)) (Nat.le_of_ble_eq_true rfl) dL_law_592 (fun r2 w2 q2 => ?_)
  obtain ⟨rfl, hM2, o2⟩ := q2
  refine ga_icmp_eq 1078 dL_law_595 (by decide) (fun c => ?_) (fun c => absurd rfl c)
  exact kk _ _ _ (gx_XZ_lo o2 hX1) hM2 (gx_ws_undo hW)
set_option maxRecDepth 100000 in
set_option maxHeartbeats 4000000 in
theorem gl_c16 {l : Launch} {G : gt_G} {nm : String} {i : Nat} {w : gt_W} {c : Nat} {K V : gx_K} {m : Int32} {hs : Nat → gx_K × Int32} {cnt : Nat} {im : Nat → Nat × (gx_K × Int32) × Nat} {sd : Nat} {x : Nat → Nat} {Lt fp : Nat} {Q : gx_K} (hi : i + 5 ≤ G.2.2.2.2.1) (hL : G.2.2.2.2.1 ≤ 320) (hX : gx_X w c K V m hs cnt im sd x Lt fp Q) (hM : gx_M w K V m hs cnt im sd x Lt fp Q) (hW : gx_WF K V m hs cnt im sd x Lt fp Q) (kk : ∀ (w' : gt_W) (c' : Nat) (S : gx_Z), gx_XZ w' c' S → gx_MZ w' S → gx_WZ S → gt_lw l G nm i 1078 w') : gt_lw l G nm i 600 w := by
  refine ga_aload_n 1 dL_law_600 rfl ?_
  refine ga_aload_n 0 dL_law_601 rfl ?_
  refine ga_iload_n 3 dL_law_602 rfl ?_
  refine ga_iconst (nI 1) dL_law_603 (by decide) ?_
  refine ga_iadd dL_law_604 ?_
  refine ga_top (nI (i + 1)) (nI_add i 1) ?_
  refine ga_sld (vp_in_nI (by omega) (by omega)) dL_law_605 ?_
  refine ga_aload_n 0 dL_law_606 rfl ?_
  refine ga_iload_n 3 dL_law_607 rfl ?_
  refine ga_iconst (nI 2) dL_law_608 (by decide) ?_
  refine ga_iadd dL_law_609 ?_
  refine ga_top (nI (i + 2)) (nI_add i 2) ?_
  refine ga_sld (vp_in_nI (by omega) (by omega)) dL_law_610 ?_
  refine ga_aload_n 0 dL_law_611 rfl ?_
  refine ga_iload_n 3 dL_law_612 rfl ?_
  refine ga_iconst (nI 3) dL_law_613 (by decide) ?_
  refine ga_iadd dL_law_614 ?_
  refine ga_top (nI (i + 3)) (nI_add i 3) ?_
  refine ga_sld (vp_in_nI (by omega) (by omega)) dL_law_615 ?_
  refine gd_V3 km_L_81 kv_X9_sea (c_X9_sea hX hW _ _ _) (sh1 _) rfl rfl (gt_lroom (by decide)) (Nat.le_of_ble_eq_true rfl) dL_law_616 (fun r1 w1 q1 => ?_)
  obtain ⟨rfl, hX1, o1⟩ := q1
  have hM1 := gx_M_hi o1 hM
  refine ga_aload_n 2 dL_law_619 rfl ?_
  refine ga_aload_n 0 dL_law_620 rfl ?_
  refine ga_iload_n 3 dL_law_621 rfl ?_
  refine ga_iconst (nI 1) dL_law_622 (by decide) ?_
  refine ga_iadd dL_law_623 ?_
  refine ga_top (nI (i + 1)) (nI_add i 1) ?_
  refine ga_sld (vp_in_nI (by omega) (by omega)) dL_law_624 ?_
  refine ga_aload_n 0 dL_law_625 rfl ?_
  refine ga_iload_n 3 dL_law_626 rfl ?_
  refine ga_iconst (nI 2) dL_law_627 (by decide) ?_
  refine ga_iadd dL_law_628 ?_
  refine ga_top (nI (i + 2)) (nI_add i 2) ?_
  refine ga_sld (vp_in_nI (by omega) (by omega)) dL_law_629 ?_
  refine ga_aload_n 0 dL_law_630 rfl ?_
  refine ga_iload_n 3 dL_law_631 rfl ?_
  refine ga_iconst (nI 3) dL_law_632 (by decide) ?_
  refine ga_iadd dL_law_633 ?_
  refine ga_top (nI (i + 3)) (nI_add i 3) ?_
  refine ga_sld (vp_in_nI (by omega) (by omega)) dL_law_634 ?_
  refine gd_V3 km_L_85 kv_X10_sea (c_X10_sea hM1 hW _ _ _) (sh161 _) rfl rfl (gt_lroom (by decide)) (Nat.le_of_ble_eq_true rfl) dL_law_635 (fun r2 w2 q2 => ?_)
  obtain ⟨rfl, hM2, o2⟩ := q2
  refine ga_icmp_eq 1078 dL_law_638 (by decide) (fun c => ?_) (fun c => absurd rfl c)
  exact kk _ _ (K, (V, m), hs, cnt, im, sd, x, Lt, fp, Q) (gx_XZ_lo (S := (K, (V, m), hs, cnt, im, sd, x, Lt, fp, Q)) o2 hX1) hM2 hW
set_option maxRecDepth 100000 in
set_option maxHeartbeats 4000000 in
theorem gl_c17 {l : Launch} {G : gt_G} {nm : String} {i : Nat} {w : gt_W} {c : Nat} {K V : gx_K} {m : Int32} {hs : Nat → gx_K × Int32} {cnt : Nat} {im : Nat → Nat × (gx_K × Int32) × Nat} {sd : Nat} {x : Nat → Nat} {Lt fp : Nat} {Q : gx_K} (hi : i + 5 ≤ G.2.2.2.2.1) (hL : G.2.2.2.2.1 ≤ 320) (hX : gx_X w c K V m hs cnt im sd x Lt fp Q) (hM : gx_M w K V m hs cnt im sd x Lt fp Q) (hW : gx_WF K V m hs cnt im sd x Lt fp Q) (kk : ∀ (w' : gt_W) (c' : Nat) (S : gx_Z), gx_XZ w' c' S → gx_MZ w' S → gx_WZ S → gt_lw l G nm i 1078 w') : gt_lw l G nm i 643 w := by
  refine ga_aload_n 1 dL_law_643 rfl ?_
  refine ga_aload_n 0 dL_law_644 rfl ?_
  refine ga_iload_n 3 dL_law_645 rfl ?_
  refine ga_iconst (nI 1) dL_law_646 (by decide) ?_
  refine ga_iadd dL_law_647 ?_
  refine ga_top (nI (i + 1)) (nI_add i 1) ?_
  refine ga_sld (vp_in_nI (by omega) (by omega)) dL_law_648 ?_
  refine ga_aload_n 0 dL_law_649 rfl ?_
  refine ga_iload_n 3 dL_law_650 rfl ?_
  refine ga_iconst (nI 2) dL_law_651 (by decide) ?_
  refine ga_iadd dL_law_652 ?_
  refine ga_top (nI (i + 2)) (nI_add i 2) ?_
  refine ga_sld (vp_in_nI (by omega) (by omega)) dL_law_653 ?_
  refine ga_aload_n 0 dL_law_654 rfl ?_
  refine ga_iload_n 3 dL_law_655 rfl ?_
  refine ga_iconst (nI 3) dL_law_656 (by decide) ?_
  refine ga_iadd dL_law_657 ?_
  refine ga_top (nI (i + 3)) (nI_add i 3) ?_
  refine ga_sld (vp_in_nI (by omega) (by omega)) dL_law_658 ?_
  refine gd_V3 km_L_86 kv_X9_deepest (c_X9_deepest hX hW _ _ _) (sh1 _) rfl rfl (gt_lroom (by decide)) (Nat.le_of_ble_eq_true rfl) dL_law_659 (fun r1 w1 q1 => ?_)
  obtain ⟨rfl, hX1, o1⟩ := q1
  have hM1 := gx_M_hi o1 hM
  refine ga_aload_n 2 dL_law_662 rfl ?_
  refine ga_aload_n 0 dL_law_663 rfl ?_
  refine ga_iload_n 3 dL_law_664 rfl ?_
  refine ga_iconst (nI 1) dL_law_665 (by decide) ?_
  refine ga_iadd dL_law_666 ?_
  refine ga_top (nI (i + 1)) (nI_add i 1) ?_
  refine ga_sld (vp_in_nI (by omega) (by omega)) dL_law_667 ?_
  refine ga_aload_n 0 dL_law_668 rfl ?_
  refine ga_iload_n 3 dL_law_669 rfl ?_
  refine ga_iconst (nI 2) dL_law_670 (by decide) ?_
  refine ga_iadd dL_law_671 ?_
  refine ga_top (nI (i + 2)) (nI_add i 2) ?_
  refine ga_sld (vp_in_nI (by omega) (by omega)) dL_law_672 ?_
  refine ga_aload_n 0 dL_law_673 rfl ?_
  refine ga_iload_n 3 dL_law_674 rfl ?_
  refine ga_iconst (nI 3) dL_law_675 (by decide) ?_
  refine ga_iadd dL_law_676 ?_
  refine ga_top (nI (i + 3)) (nI_add i 3) ?_
  refine ga_sld (vp_in_nI (by omega) (by omega)) dL_law_677 ?_
  refine gd_V3 km_L_89 kv_X10_deepest (c_X10_deepest hM1 hW _ _ _) (sh161 _) rfl rfl (gt_lroom (by decide)) (Nat.le_of_ble_eq_true rfl) dL_law_678 (fun r2 w2 q2 => ?_)
  obtain ⟨rfl, hM2, o2⟩ := q2
  refine ga_icmp_eq 1078 dL_law_681 (by decide) (fun c => ?_) (fun c => absurd rfl c)
  exact kk _ _ (K, (V, m), hs, cnt, im, sd, x, Lt, fp, Q) (gx_XZ_lo (S := (K, (V, m), hs, cnt, im, sd, x, Lt, fp, Q)) o2 hX1) hM2 hW
set_option maxRecDepth 100000 in
set_option maxHeartbeats 4000000 in
theorem gl_c18 {l : Launch} {G : gt_G} {nm : String} {i : Nat} {w : gt_W} {c : Nat} {K V : gx_K} {m : Int32} {hs : Nat → gx_K × Int32} {cnt : Nat} {im : Nat → Nat × (gx_K × Int32) × Nat} {sd : Nat} {x : Nat → Nat} {Lt fp : Nat} {Q : gx_K} (hi : i + 5 ≤ G.2.2.2.2.1) (hL : G.2.2.2.2.1 ≤ 320) (hX : gx_X w c K V m hs cnt im sd x Lt fp Q) (hM : gx_M w K V m hs cnt im sd x Lt fp Q) (hW : gx_WF K V m hs cnt im sd x Lt fp Q) (kk : ∀ (w' : gt_W) (c' : Nat) (S : gx_Z), gx_XZ w' c' S → gx_MZ w' S → gx_WZ S → gt_lw l G nm i 1078 w') : gt_lw l G nm i 686 w := by
  refine ga_aload_n 1 dL_law_686 rfl ?_
  refine ga_aload_n 0 dL_law_687 rfl ?_
  refine ga_iload_n 3 dL_law_688 rfl ?_
  refine ga_iconst (nI 1) dL_law_689 (by decide) ?_
  refine ga_iadd dL_law_690 ?_
  refine ga_top (nI (i + 1)) (nI_add i 1) ?_
  refine ga_sld (vp_in_nI (by omega) (by omega)) dL_law_691 ?_
  refine gd_V1 km_L_90 kv_X9_comes (c_X9_comes hX hW _) (sh1 _) rfl rfl (gt_lroom (by decide)) (Nat.le_of_ble_eq_true rfl) dL_law_692 (fun r1 w1 q1 => ?_)
  obtain ⟨rfl, hX1, o1⟩ := q1
  have hM1 := gx_M_hi o1 hM
  refine ga_aload_n 2 dL_law_695 rfl ?_
  refine ga_aload_n 0 dL_law_696 rfl ?_
  refine ga_iload_n 3 dL_law_697 rfl ?_
  refine ga_iconst (nI 1) dL_law_698 (by decide) ?_
  refine ga_iadd dL_law_699 ?_
  refine ga_top (nI (i + 1)) (nI_add i 1) ?_
  refine ga_sld (vp_in_nI (by omega) (by omega)) dL_law_700 ?_
  refine gd_V1 km_L_93 kv_X10_comes (c_X10_comes hM1 hW _) (sh161 _) rfl rfl (gt_lroom (by decide)) (Nat.le_of_ble_eq_true rfl) dL_law_701 (fun r2 w2 q2 => ?_)
  obtain ⟨rfl, hM2, o2⟩ := q2
  refine ga_icmp_eq 1078 dL_law_704 (by decide) (fun c => ?_) (fun c => absurd rfl c)
  exact kk _ _ (K, (V, m), hs, cnt, im, sd, x, Lt, fp, Q) (gx_XZ_lo (S := (K, (V, m), hs, cnt, im, sd, x, Lt, fp, Q)) o2 hX1) hM2 hW
set_option maxRecDepth 100000 in
set_option maxHeartbeats 4000000 in
theorem gl_c19 {l : Launch} {G : gt_G} {nm : String} {i : Nat} {w : gt_W} {c : Nat} {K V : gx_K} {m : Int32} {hs : Nat → gx_K × Int32} {cnt : Nat} {im : Nat → Nat × (gx_K × Int32) × Nat} {sd : Nat} {x : Nat → Nat} {Lt fp : Nat} {Q : gx_K} (hi : i + 5 ≤ G.2.2.2.2.1) (hL : G.2.2.2.2.1 ≤ 320) (hX : gx_X w c K V m hs cnt im sd x Lt fp Q) (hM : gx_M w K V m hs cnt im sd x Lt fp Q) (hW : gx_WF K V m hs cnt im sd x Lt fp Q) (kk : ∀ (w' : gt_W) (c' : Nat) (S : gx_Z), gx_XZ w' c' S → gx_MZ w' S → gx_WZ S → gt_lw l G nm i 1078 w') : gt_lw l G nm i 709 w := by
  refine ga_aload_n 1 dL_law_709 rfl ?_
  refine ga_aload_n 0 dL_law_710 rfl ?_
  refine ga_iload_n 3 dL_law_711 rfl ?_
  refine ga_iconst (nI 1) dL_law_712 (by decide) ?_
  refine ga_iadd dL_law_713 ?_
  refine ga_top (nI (i + 1)) (nI_add i 1) ?_
  refine ga_sld (vp_in_nI (by omega) (by omega)) dL_law_714 ?_
  refine ga_aload_n 0 dL_law_715 rfl ?_
  refine ga_iload_n 3 dL_law_716 rfl ?_
  refine ga_iconst (nI 2) dL_law_717 (by decide) ?_
  refine ga_iadd dL_law_718 ?_
  refine ga_top (nI (i + 2)) (nI_add i 2) ?_
  refine ga_sld (vp_in_nI (by omega) (by omega)) dL_law_719 ?_
  refine ga_aload_n 0 dL_law_720 rfl ?_
  refine ga_iload_n 3 dL_law_721 rfl ?_
  refine ga_iconst (nI 3) dL_law_722 (by decide) ?_
  refine ga_iadd dL_law_723 ?_
  refine ga_top (nI (i + 3)) (nI_add i 3) ?_
  refine ga_sld (vp_in_nI (by omega) (by omega)) dL_law_724 ?_
  refine ga_aload_n 0 dL_law_725 rfl ?_
  refine ga_iload_n 3 dL_law_726 rfl ?_
  refine ga_iconst (nI 4) dL_law_727 (by decide) ?_
  refine ga_iadd dL_law_728 ?_
  refine ga_top (nI (i + 4)) (nI_add i 4) ?_
  refine ga_sld (vp_in_nI (by omega) (by omega)) dL_law_729 ?_
  refine gd_V4 km_L_94 kv_X9_seats (c_X9_seats hX hW _ _ _ _) (sh1 _) rfl rfl (gt_lroom (by decide)) (Nat.le_of_ble_eq_true rfl) dL_law_730 (fun r1 w1 q1 => ?_)
  obtain ⟨rfl, hX1, o1⟩ := q1
  have hM1 := gx_M_hi o1 hM
  refine ga_aload_n 2 dL_law_733 rfl ?_
  refine ga_aload_n 0 dL_law_734 rfl ?_
  refine ga_iload_n 3 dL_law_735 rfl ?_
  refine ga_iconst (nI 1) dL_law_736 (by decide) ?_
  refine ga_iadd dL_law_737 ?_
  refine ga_top (nI (i + 1)) (nI_add i 1) ?_
  refine ga_sld (vp_in_nI (by omega) (by omega)) dL_law_738 ?_
  refine ga_aload_n 0 dL_law_739 rfl ?_
  refine ga_iload_n 3 dL_law_740 rfl ?_
  refine ga_iconst (nI 2) dL_law_741 (by decide) ?_
  refine ga_iadd dL_law_742 ?_
  refine ga_top (nI (i + 2)) (nI_add i 2) ?_
  refine ga_sld (vp_in_nI (by omega) (by omega)) dL_law_743 ?_
  refine ga_aload_n 0 dL_law_744 rfl ?_
  refine ga_iload_n 3 dL_law_745 rfl ?_
  refine ga_iconst (nI 3) dL_law_746 (by decide) ?_
  refine ga_iadd dL_law_747 ?_
  refine ga_top (nI (i + 3)) (nI_add i 3) ?_
  refine ga_sld (vp_in_nI (by omega) (by omega)) dL_law_748 ?_
  refine ga_aload_n 0 dL_law_749 rfl ?_
  refine ga_iload_n 3 dL_law_750 rfl ?_
  refine ga_iconst (nI 4) dL_law_751 (by decide) ?_
  refine ga_iadd dL_law_752 ?_
  refine ga_top (nI (i + 4)) (nI_add i 4) ?_
  refine ga_sld (vp_in_nI (by omega) (by omega)) dL_law_753 ?_
  refine gd_V4 km_L_98 kv_X10_seats (c_X10_seats hM1 hW _ _ _ _) (sh161 _) rfl rfl (gt_lroom (by decide)) (Nat.le_of_ble_eq_true rfl) dL_law_754 (fun r2 w2 q2 => ?_)
  obtain ⟨rfl, hM2, o2⟩ := q2
  refine ga_icmp_eq 1078 dL_law_757 (by decide) (fun c => ?_) (fun c => absurd rfl c)
  exact kk _ _ (K, (V, m), hs, cnt, im, sd, x, Lt, fp, Q) (gx_XZ_lo (S := (K, (V, m), hs, cnt, im, sd, x, Lt, fp, Q)) o2 hX1) hM2 hW
set_option maxRecDepth 100000 in
set_option maxHeartbeats 4000000 in
theorem gl_c20 {l : Launch} {G : gt_G} {nm : String} {i : Nat} {w : gt_W} {c : Nat} {K V : gx_K} {m : Int32} {hs : Nat → gx_K × Int32} {cnt : Nat} {im : Nat → Nat × (gx_K × Int32) × Nat} {sd : Nat} {x : Nat → Nat} {Lt fp : Nat} {Q : gx_K} (hi : i + 5 ≤ G.2.2.2.2.1) (hL : G.2.2.2.2.1 ≤ 320) (hX : gx_X w c K V m hs cnt im sd x Lt fp Q) (hM : gx_M w K V m hs cnt im sd x Lt fp Q) (hW : gx_WF K V m hs cnt im sd x Lt fp Q) (kk : ∀ (w' : gt_W) (c' : Nat) (S : gx_Z), gx_XZ w' c' S → gx_MZ w' S → gx_WZ S → gt_lw l G nm i 1078 w') : gt_lw l G nm i 762 w := by
  refine ga_aload_n 1 dL_law_762 rfl ?_
  refine ga_aload_n 0 dL_law_763 rfl ?_
  refine ga_iload_n 3 dL_law_764 rfl ?_
  refine ga_iconst (nI 1) dL_law_765 (by decide) ?_
  refine ga_iadd dL_law_766 ?_
  refine ga_top (nI (i + 1)) (nI_add i 1) ?_
  refine ga_sld (vp_in_nI (by omega) (by omega)) dL_law_767 ?_
  refine gd_V1 km_L_99 kv_X9_leave (c_X9_leave hX hW _) (sh1 _) rfl rfl (gt_lroom (by decide)) (Nat.le_of_ble_eq_true rfl) dL_law_768 (fun r1 w1 q1 => ?_)
  obtain ⟨rfl, hX1, o1⟩ := q1
  have hM1 := gx_M_hi o1 hM
  refine ga_aload_n 2 dL_law_771 rfl ?_
  refine ga_aload_n 0 dL_law_772 rfl ?_
  refine ga_iload_n 3 dL_law_773 rfl ?_
  refine ga_iconst (nI 1) dL_law_774 (by decide) ?_
  refine ga_iadd dL_law_775 ?_
  refine ga_top (nI (i + 1)) (nI_add i 1) ?_
  refine ga_sld (vp_in_nI (by omega) (by omega)) dL_law_776 ?_
  refine gd_V1 km_L_102 kv_X10_leave (c_X10_leave hM1 hW _) (sh161 _) rfl rfl (gt_lroom (by decide)) (Nat.le_of_ble_eq_true rfl) dL_law_777 (fun r2 w2 q2 => ?_)
  obtain ⟨rfl, hM2, o2⟩ := q2
  refine ga_icmp_eq 1078 dL_law_780 (by decide) (fun c => ?_) (fun c => absurd rfl c)
  exact kk _ _ (K, (V, m), hs, cnt, im, sd, x, Lt, fp, Q) (gx_XZ_lo (S := (K, (V, m), hs, cnt, im, sd, x, Lt, fp, Q)) o2 hX1) hM2 hW
set_option maxRecDepth 100000 in
set_option maxHeartbeats 4000000 in
theorem gl_c21 {l : Launch} {G : gt_G} {nm : String} {i : Nat} {w : gt_W} {c : Nat} {K V : gx_K} {m : Int32} {hs : Nat → gx_K × Int32} {cnt : Nat} {im : Nat → Nat × (gx_K × Int32) × Nat} {sd : Nat} {x : Nat → Nat} {Lt fp : Nat} {Q : gx_K} (hi : i + 5 ≤ G.2.2.2.2.1) (hL : G.2.2.2.2.1 ≤ 320) (hX : gx_X w c K V m hs cnt im sd x Lt fp Q) (hM : gx_M w K V m hs cnt im sd x Lt fp Q) (hW : gx_WF K V m hs cnt im sd x Lt fp Q) (kk : ∀ (w' : gt_W) (c' : Nat) (S : gx_Z), gx_XZ w' c' S → gx_MZ w' S → gx_WZ S → gt_lw l G nm i 1078 w') : gt_lw l G nm i 785 w := by
  refine ga_aload_n 1 dL_law_785 rfl ?_
  refine ga_aload_n 0 dL_law_786 rfl ?_
  refine ga_iload_n 3 dL_law_787 rfl ?_
  refine ga_iconst (nI 1) dL_law_788 (by decide) ?_
  refine ga_iadd dL_law_789 ?_
  refine ga_top (nI (i + 1)) (nI_add i 1) ?_
  refine ga_sld (vp_in_nI (by omega) (by omega)) dL_law_790 ?_
  refine ga_aload_n 0 dL_law_791 rfl ?_
  refine ga_iload_n 3 dL_law_792 rfl ?_
  refine ga_iconst (nI 2) dL_law_793 (by decide) ?_
  refine ga_iadd dL_law_794 ?_
  refine ga_top (nI (i + 2)) (nI_add i 2) ?_
  refine ga_sld (vp_in_nI (by omega) (by omega)) dL_law_795 ?_
  refine gd_V2 km_L_103 kv_X9_share (c_X9_share hX hW _ _) (sh1 _) rfl rfl (gt_lroom (by decide)) (Nat.le_of_ble_eq_true rfl) dL_law_796 (fun r1 w1 q1 => ?_)
  obtain ⟨rfl, hX1, o1⟩ := q1
  have hM1 := gx_M_hi o1 hM
  refine ga_aload_n 2 dL_law_799 rfl ?_
  refine ga_aload_n 0 dL_law_800 rfl ?_
  refine ga_iload_n 3 dL_law_801 rfl ?_
  refine ga_iconst (nI 1) dL_law_802 (by decide) ?_
  refine ga_iadd dL_law_803 ?_
  refine ga_top (nI (i + 1)) (nI_add i 1) ?_
  refine ga_sld (vp_in_nI (by omega) (by omega)) dL_law_804 ?_
  refine ga_aload_n 0 dL_law_805 rfl ?_
  refine ga_iload_n 3 dL_law_806 rfl ?_
  refine ga_iconst (nI 2) dL_law_807 (by decide) ?_
  refine ga_iadd dL_law_808 ?_
  refine ga_top (nI (i + 2)) (nI_add i 2) ?_
  refine ga_sld (vp_in_nI (by omega) (by omega)) dL_law_809 ?_
  refine gd_V2 km_L_106 kv_X10_share (c_X10_share hM1 hW _ _) (sh161 _) rfl rfl (gt_lroom (by decide)) (Nat.le_of_ble_eq_true rfl) dL_law_810 (fun r2 w2 q2 => ?_)
  obtain ⟨rfl, hM2, o2⟩ := q2
  refine ga_icmp_eq 1078 dL_law_813 (by decide) (fun c => ?_) (fun c => absurd rfl c)
  exact kk _ _ (K, (V, m), hs, cnt, im, sd, x, Lt, fp, Q) (gx_XZ_lo (S := (K, (V, m), hs, cnt, im, sd, x, Lt, fp, Q)) o2 hX1) hM2 hW
set_option maxRecDepth 100000 in
set_option maxHeartbeats 4000000 in
theorem gl_c22 {l : Launch} {G : gt_G} {nm : String} {i : Nat} {w : gt_W} {c : Nat} {K V : gx_K} {m : Int32} {hs : Nat → gx_K × Int32} {cnt : Nat} {im : Nat → Nat × (gx_K × Int32) × Nat} {sd : Nat} {x : Nat → Nat} {Lt fp : Nat} {Q : gx_K} (hi : i + 5 ≤ G.2.2.2.2.1) (hL : G.2.2.2.2.1 ≤ 320) (hX : gx_X w c K V m hs cnt im sd x Lt fp Q) (hM : gx_M w K V m hs cnt im sd x Lt fp Q) (hW : gx_WF K V m hs cnt im sd x Lt fp Q) (kk : ∀ (w' : gt_W) (c' : Nat) (S : gx_Z), gx_XZ w' c' S → gx_MZ w' S → gx_WZ S → gt_lw l G nm i 1078 w') : gt_lw l G nm i 818 w := by
  refine ga_aload_n 1 dL_law_818 rfl ?_
  refine ga_aload_n 0 dL_law_819 rfl ?_
  refine ga_iload_n 3 dL_law_820 rfl ?_
  refine ga_iconst (nI 1) dL_law_821 (by decide) ?_
  refine ga_iadd dL_law_822 ?_
  refine ga_top (nI (i + 1)) (nI_add i 1) ?_
  refine ga_sld (vp_in_nI (by omega) (by omega)) dL_law_823 ?_
  refine ga_aload_n 0 dL_law_824 rfl ?_
  refine ga_iload_n 3 dL_law_825 rfl ?_
  refine ga_iconst (nI 2) dL_law_826 (by decide) ?_
  refine ga_iadd dL_law_827 ?_
  refine ga_top (nI (i + 2)) (nI_add i 2) ?_
  refine ga_sld (vp_in_nI (by omega) (by omega)) dL_law_828 ?_
  refine gd_V2 km_L_107 kv_X9_calm (c_X9_calm hX hW _ _) (sh1 _) rfl rfl (gt_lroom (by decide)) (Nat.le_of_ble_eq_true rfl) dL_law_829 (fun r1 w1 q1 => ?_)
  obtain ⟨rfl, hX1, o1⟩ := q1
  have hM1 := gx_M_hi o1 hM
  refine ga_aload_n 2 dL_law_832 rfl ?_
  refine ga_aload_n 0 dL_law_833 rfl ?_
  refine ga_iload_n 3 dL_law_834 rfl ?_
  refine ga_iconst (nI 1) dL_law_835 (by decide) ?_
  refine ga_iadd dL_law_836 ?_
  refine ga_top (nI (i + 1)) (nI_add i 1) ?_
  refine ga_sld (vp_in_nI (by omega) (by omega)) dL_law_837 ?_
  refine ga_aload_n 0 dL_law_838 rfl ?_
  refine ga_iload_n 3 dL_law_839 rfl ?_
  refine ga_iconst (nI 2) dL_law_840 (by decide) ?_
  refine ga_iadd dL_law_841 ?_
  refine ga_top (nI (i + 2)) (nI_add i 2) ?_
  refine ga_sld (vp_in_nI (by omega) (by omega)) dL_law_842 ?_
  refine gd_V2 km_L_110 kv_X10_calm (c_X10_calm hM1 hW _ _) (sh161 _) rfl rfl (gt_lroom (by decide)) (Nat.le_of_ble_eq_true rfl) dL_law_843 (fun r2 w2 q2 => ?_)
  obtain ⟨rfl, hM2, o2⟩ := q2
  refine ga_icmp_eq 1078 dL_law_846 (by decide) (fun c => ?_) (fun c => absurd rfl c)
  exact kk _ _ (K, (V, m), hs, cnt, im, sd, x, Lt, fp, Q) (gx_XZ_lo (S := (K, (V, m), hs, cnt, im, sd, x, Lt, fp, Q)) o2 hX1) hM2 hW
set_option maxRecDepth 100000 in
set_option maxHeartbeats 4000000 in
theorem gl_c23 {l : Launch} {G : gt_G} {nm : String} {i : Nat} {w : gt_W} {c : Nat} {K V : gx_K} {m : Int32} {hs : Nat → gx_K × Int32} {cnt : Nat} {im : Nat → Nat × (gx_K × Int32) × Nat} {sd : Nat} {x : Nat → Nat} {Lt fp : Nat} {Q : gx_K} (hi : i + 5 ≤ G.2.2.2.2.1) (hL : G.2.2.2.2.1 ≤ 320) (hX : gx_X w c K V m hs cnt im sd x Lt fp Q) (hM : gx_M w K V m hs cnt im sd x Lt fp Q) (hW : gx_WF K V m hs cnt im sd x Lt fp Q) (kk : ∀ (w' : gt_W) (c' : Nat) (S : gx_Z), gx_XZ w' c' S → gx_MZ w' S → gx_WZ S → gt_lw l G nm i 1078 w') : gt_lw l G nm i 851 w := by
  refine ga_aload_n 1 dL_law_851 rfl ?_
  refine ga_aload_n 0 dL_law_852 rfl ?_
  refine ga_iload_n 3 dL_law_853 rfl ?_
  refine ga_iconst (nI 1) dL_law_854 (by decide) ?_
  refine ga_iadd dL_law_855 ?_
  refine ga_top (nI (i + 1)) (nI_add i 1) ?_
  refine ga_sld (vp_in_nI (by omega) (by omega)) dL_law_856 ?_
  refine ga_aload_n 0 dL_law_857 rfl ?_
  refine ga_iload_n 3 dL_law_858 rfl ?_
  refine ga_iconst (nI 2) dL_law_859 (by decide) ?_
  refine ga_iadd dL_law_860 ?_
  refine ga_top (nI (i + 2)) (nI_add i 2) ?_
  refine ga_sld (vp_in_nI (by omega) (by omega)) dL_law_861 ?_
  refine ga_aload_n 0 dL_law_862 rfl ?_
  refine ga_iload_n 3 dL_law_863 rfl ?_
  refine ga_iconst (nI 3) dL_law_864 (by decide) ?_
  refine ga_iadd dL_law_865 ?_
  refine ga_top (nI (i + 3)) (nI_add i 3) ?_
  refine ga_sld (vp_in_nI (by omega) (by omega)) dL_law_866 ?_
  refine gd_V3 km_L_111 kv_X9_mark (c_X9_mark hX hW _ _ _) (sh1 _) rfl rfl (gt_lroom (by decide)) (Nat.le_of_ble_eq_true rfl) dL_law_867 (fun r1 w1 q1 => ?_)
  obtain ⟨rfl, ⟨c1, hX1⟩, o1⟩ := q1
  have hM1 := gx_M_hi o1 hM
  refine ga_aload_n 2 dL_law_870 rfl ?_
  refine ga_aload_n 0 dL_law_871 rfl ?_
  refine ga_iload_n 3 dL_law_872 rfl ?_
  refine ga_iconst (nI 1) dL_law_873 (by decide) ?_
  refine ga_iadd dL_law_874 ?_
  refine ga_top (nI (i + 1)) (nI_add i 1) ?_
  refine ga_sld (vp_in_nI (by omega) (by omega)) dL_law_875 ?_
  refine ga_aload_n 0 dL_law_876 rfl ?_
  refine ga_iload_n 3 dL_law_877 rfl ?_
  refine ga_iconst (nI 2) dL_law_878 (by decide) ?_
  refine ga_iadd dL_law_879 ?_
  refine ga_top (nI (i + 2)) (nI_add i 2) ?_
  refine ga_sld (vp_in_nI (by omega) (by omega)) dL_law_880 ?_
  refine ga_aload_n 0 dL_law_881 rfl ?_
  refine ga_iload_n 3 dL_law_882 rfl ?_
  refine ga_iconst (nI 3) dL_law_883 (by decide) ?_
  refine ga_iadd dL_law_884 ?_
  refine ga_top (nI (i + 3)) (nI_add i 3) ?_
  refine ga_sld (vp_in_nI (by omega) (by omega)) dL_law_885 ?_
  refine gd_V3 km_L_114 kv_X10_mark (c_X10_mark hM1 hW _ _ _) (sh161 _) rfl rfl (gt_lroom (by decide)) (Nat.le_of_ble_eq_true rfl) dL_law_886 (fun r2 w2 q2 => ?_)
  obtain ⟨rfl, hM2, o2⟩ := q2
  refine ga_icmp_eq 1078 dL_law_889 (by decide) (fun c => ?_) (fun c => absurd rfl c)
  exact kk _ _ _ (gx_XZ_lo o2 hX1) hM2 (gx_ws_mark hW _ _ _)
set_option maxRecDepth 100000 in
set_option maxHeartbeats 4000000 in
theorem gl_c24 {l : Launch} {G : gt_G} {nm : String} {i : Nat} {w : gt_W} {c : Nat} {K V : gx_K} {m : Int32} {hs : Nat → gx_K × Int32} {cnt : Nat} {im : Nat → Nat × (gx_K × Int32) × Nat} {sd : Nat} {x : Nat → Nat} {Lt fp : Nat} {Q : gx_K} (hi : i + 5 ≤ G.2.2.2.2.1) (hL : G.2.2.2.2.1 ≤ 320) (hX : gx_X w c K V m hs cnt im sd x Lt fp Q) (hM : gx_M w K V m hs cnt im sd x Lt fp Q) (hW : gx_WF K V m hs cnt im sd x Lt fp Q) (kk : ∀ (w' : gt_W) (c' : Nat) (S : gx_Z), gx_XZ w' c' S → gx_MZ w' S → gx_WZ S → gt_lw l G nm i 1078 w') : gt_lw l G nm i 894 w := by
  refine ga_aload_n 1 dL_law_894 rfl ?_
  refine gd_V0 km_L_115 kv_X9_look (c_X9_look hX hW) (sh1 _) rfl rfl (gt_lroom (by decide)) (Nat.le_of_ble_eq_true rfl) dL_law_895 (fun r1 w1 q1 => ?_)
  obtain ⟨rfl, hX1, o1⟩ := q1
  have hM1 := gx_M_hi o1 hM
  refine ga_aload_n 2 dL_law_898 rfl ?_
  refine gd_V0 km_L_118 kv_X10_look (c_X10_look hM1 hW) (sh161 _) rfl rfl (gt_lroom (by decide)) (Nat.le_of_ble_eq_true rfl) dL_law_899 (fun r2 w2 q2 => ?_)
  obtain ⟨rfl, hM2, o2⟩ := q2
  refine ga_icmp_eq 1078 dL_law_902 (by decide) (fun c => ?_) (fun c => absurd rfl c)
  exact kk _ _ (K, (V, m), hs, cnt, im, sd, x, Lt, fp, Q) (gx_XZ_lo (S := (K, (V, m), hs, cnt, im, sd, x, Lt, fp, Q)) o2 hX1) hM2 hW
set_option maxRecDepth 100000 in
set_option maxHeartbeats 4000000 in
theorem gl_c25 {l : Launch} {G : gt_G} {nm : String} {i : Nat} {w : gt_W} {c : Nat} {K V : gx_K} {m : Int32} {hs : Nat → gx_K × Int32} {cnt : Nat} {im : Nat → Nat × (gx_K × Int32) × Nat} {sd : Nat} {x : Nat → Nat} {Lt fp : Nat} {Q : gx_K} (hi : i + 5 ≤ G.2.2.2.2.1) (hL : G.2.2.2.2.1 ≤ 320) (hX : gx_X w c K V m hs cnt im sd x Lt fp Q) (hM : gx_M w K V m hs cnt im sd x Lt fp Q) (hW : gx_WF K V m hs cnt im sd x Lt fp Q) (kk : ∀ (w' : gt_W) (c' : Nat) (S : gx_Z), gx_XZ w' c' S → gx_MZ w' S → gx_WZ S → gt_lw l G nm i 1078 w') : gt_lw l G nm i 907 w := by
  refine ga_aload_n 1 dL_law_907 rfl ?_
  refine ga_aload_n 0 dL_law_908 rfl ?_
  refine ga_iload_n 3 dL_law_909 rfl ?_
  refine ga_iconst (nI 1) dL_law_910 (by decide) ?_
  refine ga_iadd dL_law_911 ?_
  refine ga_top (nI (i + 1)) (nI_add i 1) ?_
  refine ga_sld (vp_in_nI (by omega) (by omega)) dL_law_912 ?_
  refine ga_aload_n 0 dL_law_913 rfl ?_
  refine ga_iload_n 3 dL_law_914 rfl ?_
  refine ga_iconst (nI 2) dL_law_915 (by decide) ?_
  refine ga_iadd dL_law_916 ?_
  refine ga_top (nI (i + 2)) (nI_add i 2) ?_
  refine ga_sld (vp_in_nI (by omega) (by omega)) dL_law_917 ?_
  refine ga_aload_n 0 dL_law_918 rfl ?_
  refine ga_iload_n 3 dL_law_919 rfl ?_
  refine ga_iconst (nI 3) dL_law_920 (by decide) ?_
  refine ga_iadd dL_law_921 ?_
  refine ga_top (nI (i + 3)) (nI_add i 3) ?_
  refine ga_sld (vp_in_nI (by omega) (by omega)) dL_law_922 ?_
  refine gd_V3 km_L_119 kv_X9_see (c_X9_see hX hW _ _ _) (sh1 _) rfl rfl (gt_lroom (by decide)) (Nat.le_of_ble_eq_true rfl) dL_law_923 (fun r1 w1 q1 => ?_)
  obtain ⟨rfl, ⟨c1, hX1⟩, o1⟩ := q1
  have hM1 := gx_M_hi o1 hM
  refine ga_aload_n 2 dL_law_926 rfl ?_
  refine ga_aload_n 0 dL_law_927 rfl ?_
  refine ga_iload_n 3 dL_law_928 rfl ?_
  refine ga_iconst (nI 1) dL_law_929 (by decide) ?_
  refine ga_iadd dL_law_930 ?_
  refine ga_top (nI (i + 1)) (nI_add i 1) ?_
  refine ga_sld (vp_in_nI (by omega) (by omega)) dL_law_931 ?_
  refine ga_aload_n 0 dL_law_932 rfl ?_
  refine ga_iload_n 3 dL_law_933 rfl ?_
  refine ga_iconst (nI 2) dL_law_934 (by decide) ?_
  refine ga_iadd dL_law_935 ?_
  refine ga_top (nI (i + 2)) (nI_add i 2) ?_
  refine ga_sld (vp_in_nI (by omega) (by omega)) dL_law_936 ?_
  refine ga_aload_n 0 dL_law_937 rfl ?_
  refine ga_iload_n 3 dL_law_938 rfl ?_
  refine ga_iconst (nI 3) dL_law_939 (by decide) ?_
  refine ga_iadd dL_law_940 ?_
  refine ga_top (nI (i + 3)) (nI_add i 3) ?_
  refine ga_sld (vp_in_nI (by omega) (by omega)) dL_law_941 ?_
  refine gd_V3 km_L_122 kv_X10_see (c_X10_see hM1 hW _ _ _) (sh161 _) rfl rfl (gt_lroom (by decide)) (Nat.le_of_ble_eq_true rfl) dL_law_942 (fun r2 w2 q2 => ?_)
  obtain ⟨rfl, hM2, o2⟩ := q2
  refine ga_icmp_eq 1078 dL_law_945 (by decide) (fun c => ?_) (fun c => absurd rfl c)
  exact kk _ _ _ (gx_XZ_lo o2 hX1) hM2 (gx_ws_see hW _ _ _)
set_option maxRecDepth 100000 in
set_option maxHeartbeats 4000000 in
theorem gl_c26 {l : Launch} {G : gt_G} {nm : String} {i : Nat} {w : gt_W} {c : Nat} {K V : gx_K} {m : Int32} {hs : Nat → gx_K × Int32} {cnt : Nat} {im : Nat → Nat × (gx_K × Int32) × Nat} {sd : Nat} {x : Nat → Nat} {Lt fp : Nat} {Q : gx_K} (hi : i + 5 ≤ G.2.2.2.2.1) (hL : G.2.2.2.2.1 ≤ 320) (hX : gx_X w c K V m hs cnt im sd x Lt fp Q) (hM : gx_M w K V m hs cnt im sd x Lt fp Q) (hW : gx_WF K V m hs cnt im sd x Lt fp Q) (kk : ∀ (w' : gt_W) (c' : Nat) (S : gx_Z), gx_XZ w' c' S → gx_MZ w' S → gx_WZ S → gt_lw l G nm i 1078 w') : gt_lw l G nm i 950 w := by
  refine ga_aload_n 1 dL_law_950 rfl ?_
  refine ga_aload_n 0 dL_law_951 rfl ?_
  refine ga_iload_n 3 dL_law_952 rfl ?_
  refine ga_iconst (nI 1) dL_law_953 (by decide) ?_
  refine ga_iadd dL_law_954 ?_
  refine ga_top (nI (i + 1)) (nI_add i 1) ?_
  refine ga_sld (vp_in_nI (by omega) (by omega)) dL_law_955 ?_
  refine ga_aload_n 0 dL_law_956 rfl ?_
  refine ga_iload_n 3 dL_law_957 rfl ?_
  refine ga_iconst (nI 2) dL_law_958 (by decide) ?_
  refine ga_iadd dL_law_959 ?_
  refine ga_top (nI (i + 2)) (nI_add i 2) ?_
  refine ga_sld (vp_in_nI (by omega) (by omega)) dL_law_960 ?_
  refine gd_V2 km_L_123 kv_X9_write (c_X9_write hX hW _ _) (sh1 _) rfl rfl (gt_lroom (by decide)) (Nat.le_of_ble_eq_true rfl) dL_law_961 (fun r1 w1 q1 => ?_)
  obtain ⟨rfl, ⟨c1, hX1⟩, o1⟩ := q1
  have hM1 := gx_M_hi o1 hM
  refine ga_aload_n 2 dL_law_964 rfl ?_
  refine ga_aload_n 0 dL_law_965 rfl ?_
  refine ga_iload_n 3 dL_law_966 rfl ?_
  refine ga_iconst (nI 1) dL_law_967 (by decide) ?_
  refine ga_iadd dL_law_968 ?_
  refine ga_top (nI (i + 1)) (nI_add i 1) ?_
  refine ga_sld (vp_in_nI (by omega) (by omega)) dL_law_969 ?_
  refine ga_aload_n 0 dL_law_970 rfl ?_
  refine ga_iload_n 3 dL_law_971 rfl ?_
  refine ga_iconst (nI 2) dL_law_972 (by decide) ?_
  refine ga_iadd dL_law_973 ?_
  refine ga_top (nI (i + 2)) (nI_add i 2) ?_
  refine ga_sld (vp_in_nI (by omega) (by omega)) dL_law_974 ?_
  refine gd_V2 km_L_126 kv_X10_write (c_X10_write hM1 hW _ _) (sh161 _) rfl rfl (gt_lroom (by decide)) (Nat.le_of_ble_eq_true rfl) dL_law_975 (fun r2 w2 q2 => ?_)
  obtain ⟨rfl, hM2, o2⟩ := q2
  refine ga_icmp_eq 1078 dL_law_978 (by decide) (fun c => ?_) (fun c => absurd rfl c)
  exact kk _ _ _ (gx_XZ_lo o2 hX1) hM2 (gx_ws_write hW _ _)
set_option maxRecDepth 100000 in
set_option maxHeartbeats 4000000 in
theorem gl_c27 {l : Launch} {G : gt_G} {nm : String} {i : Nat} {w : gt_W} {c : Nat} {K V : gx_K} {m : Int32} {hs : Nat → gx_K × Int32} {cnt : Nat} {im : Nat → Nat × (gx_K × Int32) × Nat} {sd : Nat} {x : Nat → Nat} {Lt fp : Nat} {Q : gx_K} (hi : i + 5 ≤ G.2.2.2.2.1) (hL : G.2.2.2.2.1 ≤ 320) (hX : gx_X w c K V m hs cnt im sd x Lt fp Q) (hM : gx_M w K V m hs cnt im sd x Lt fp Q) (hW : gx_WF K V m hs cnt im sd x Lt fp Q) (kk : ∀ (w' : gt_W) (c' : Nat) (S : gx_Z), gx_XZ w' c' S → gx_MZ w' S → gx_WZ S → gt_lw l G nm i 1078 w') : gt_lw l G nm i 983 w := by
  refine ga_aload_n 1 dL_law_983 rfl ?_
  refine gd_V0 km_L_127 kv_X9_tear (c_X9_tear hX hW) (sh1 _) rfl rfl (gt_lroom (by decide)) (Nat.le_of_ble_eq_true rfl) dL_law_984 (fun r1 w1 q1 => ?_)
  obtain ⟨rfl, ⟨c1, hX1⟩, o1⟩ := q1
  have hM1 := gx_M_hi o1 hM
  refine ga_aload_n 2 dL_law_987 rfl ?_
  refine gd_V0 km_L_130 kv_X10_tear (c_X10_tear hM1 hW) (sh161 _) rfl rfl (gt_lroom (by decide)) (Nat.le_of_ble_eq_true rfl) dL_law_988 (fun r2 w2 q2 => ?_)
  obtain ⟨rfl, hM2, o2⟩ := q2
  refine ga_icmp_eq 1078 dL_law_991 (by decide) (fun c => ?_) (fun c => absurd rfl c)
  exact kk _ _ _ (gx_XZ_lo o2 hX1) hM2 (gx_ws_tear hW)
set_option maxRecDepth 100000 in
set_option maxHeartbeats 4000000 in
theorem gl_c28 {l : Launch} {G : gt_G} {nm : String} {i : Nat} {w : gt_W} {c : Nat} {K V : gx_K} {m : Int32} {hs : Nat → gx_K × Int32} {cnt : Nat} {im : Nat → Nat × (gx_K × Int32) × Nat} {sd : Nat} {x : Nat → Nat} {Lt fp : Nat} {Q : gx_K} (hi : i + 5 ≤ G.2.2.2.2.1) (hL : G.2.2.2.2.1 ≤ 320) (hX : gx_X w c K V m hs cnt im sd x Lt fp Q) (hM : gx_M w K V m hs cnt im sd x Lt fp Q) (hW : gx_WF K V m hs cnt im sd x Lt fp Q) (kk : ∀ (w' : gt_W) (c' : Nat) (S : gx_Z), gx_XZ w' c' S → gx_MZ w' S → gx_WZ S → gt_lw l G nm i 1078 w') : gt_lw l G nm i 996 w := by
  refine ga_aload_n 1 dL_law_996 rfl ?_
  refine gd_V0 km_L_131 kv_X9_judge (c_X9_judge hX hW) (sh1 _) rfl rfl (gt_lroom (by decide)) (Nat.le_of_ble_eq_true rfl) dL_law_997 (fun r1 w1 q1 => ?_)
  obtain ⟨rfl, hX1, o1⟩ := q1
  have hM1 := gx_M_hi o1 hM
  refine ga_aload_n 2 dL_law_1000 rfl ?_
  refine gd_V0 km_L_134 kv_X10_judge (c_X10_judge hM1 hW) (sh161 _) rfl rfl (gt_lroom (by decide)) (Nat.le_of_ble_eq_true rfl) dL_law_1001 (fun r2 w2 q2 => ?_)
  obtain ⟨rfl, hM2, o2⟩ := q2
  refine ga_icmp_eq 1078 dL_law_1004 (by decide) (fun c => ?_) (fun c => absurd rfl c)
  exact kk _ _ (K, (V, m), hs, cnt, im, sd, x, Lt, fp, Q) (gx_XZ_lo (S := (K, (V, m), hs, cnt, im, sd, x, Lt, fp, Q)) o2 hX1) hM2 hW
set_option maxRecDepth 100000 in
set_option maxHeartbeats 4000000 in
theorem gl_c29 {l : Launch} {G : gt_G} {nm : String} {i : Nat} {w : gt_W} {c : Nat} {K V : gx_K} {m : Int32} {hs : Nat → gx_K × Int32} {cnt : Nat} {im : Nat → Nat × (gx_K × Int32) × Nat} {sd : Nat} {x : Nat → Nat} {Lt fp : Nat} {Q : gx_K} (hi : i + 5 ≤ G.2.2.2.2.1) (hL : G.2.2.2.2.1 ≤ 320) (hX : gx_X w c K V m hs cnt im sd x Lt fp Q) (hM : gx_M w K V m hs cnt im sd x Lt fp Q) (hW : gx_WF K V m hs cnt im sd x Lt fp Q) (kk : ∀ (w' : gt_W) (c' : Nat) (S : gx_Z), gx_XZ w' c' S → gx_MZ w' S → gx_WZ S → gt_lw l G nm i 1078 w') : gt_lw l G nm i 1009 w := by
  refine ga_aload_n 1 dL_law_1009 rfl ?_
  refine ga_aload_n 0 dL_law_1010 rfl ?_
  refine ga_iload_n 3 dL_law_1011 rfl ?_
  refine ga_iconst (nI 1) dL_law_1012 (by decide) ?_
  refine ga_iadd dL_law_1013 ?_
  refine ga_top (nI (i + 1)) (nI_add i 1) ?_
  refine ga_sld (vp_in_nI (by omega) (by omega)) dL_law_1014 ?_
  refine gd_V1 km_L_135 kv_X9_seed (c_X9_seed hX hW _) (sh1 _) rfl rfl (gt_lroom (by decide)) (Nat.le_of_ble_eq_true rfl) dL_law_1015 (fun r1 w1 q1 => ?_)
  obtain ⟨rfl, ⟨c1, hX1⟩, o1⟩ := q1
  have hM1 := gx_M_hi o1 hM
  refine ga_aload_n 2 dL_law_1018 rfl ?_
  refine ga_aload_n 0 dL_law_1019 rfl ?_
  refine ga_iload_n 3 dL_law_1020 rfl ?_
  refine ga_iconst (nI 1) dL_law_1021 (by decide) ?_
  refine ga_iadd dL_law_1022 ?_
  refine ga_top (nI (i + 1)) (nI_add i 1) ?_
  refine ga_sld (vp_in_nI (by omega) (by omega)) dL_law_1023 ?_
  refine gd_V1 km_L_138 kv_X10_seed (c_X10_seed hM1 hW _) (sh161 _) rfl rfl (gt_lroom (by decide)) (Nat.le_of_ble_eq_true rfl) dL_law_1024 (fun r2 w2 q2 => ?_)
  obtain ⟨rfl, hM2, o2⟩ := q2
  refine ga_icmp_eq 1078 dL_law_1027 (by decide) (fun c => ?_) (fun c => absurd rfl c)
  exact kk _ _ _ (gx_XZ_lo o2 hX1) hM2 (gx_ws_seed hW _)
set_option maxRecDepth 100000 in
set_option maxHeartbeats 4000000 in
theorem gl_c30 {l : Launch} {G : gt_G} {nm : String} {i : Nat} {w : gt_W} {c : Nat} {K V : gx_K} {m : Int32} {hs : Nat → gx_K × Int32} {cnt : Nat} {im : Nat → Nat × (gx_K × Int32) × Nat} {sd : Nat} {x : Nat → Nat} {Lt fp : Nat} {Q : gx_K} (hi : i + 5 ≤ G.2.2.2.2.1) (hL : G.2.2.2.2.1 ≤ 320) (hX : gx_X w c K V m hs cnt im sd x Lt fp Q) (hM : gx_M w K V m hs cnt im sd x Lt fp Q) (hW : gx_WF K V m hs cnt im sd x Lt fp Q) (kk : ∀ (w' : gt_W) (c' : Nat) (S : gx_Z), gx_XZ w' c' S → gx_MZ w' S → gx_WZ S → gt_lw l G nm i 1078 w') : gt_lw l G nm i 1032 w := by
  refine ga_aload_n 1 dL_law_1032 rfl ?_
  refine ga_aload_n 0 dL_law_1033 rfl ?_
  refine ga_iload_n 3 dL_law_1034 rfl ?_
  refine ga_iconst (nI 1) dL_law_1035 (by decide) ?_
  refine ga_iadd dL_law_1036 ?_
  refine ga_top (nI (i + 1)) (nI_add i 1) ?_
  refine ga_sld (vp_in_nI (by omega) (by omega)) dL_law_1037 ?_
  refine gd_V1 km_L_139 kv_X9_keep (c_X9_keep hX hW _) (sh1 _) rfl rfl (gt_lroom (by decide)) (Nat.le_of_ble_eq_true rfl) dL_law_1038 (fun r1 w1 q1 => ?_)
  obtain ⟨rfl, ⟨c1, hX1⟩, o1⟩ := q1
  have hM1 := gx_M_hi o1 hM
  refine ga_aload_n 2 dL_law_1041 rfl ?_
  refine ga_aload_n 0 dL_law_1042 rfl ?_
  refine ga_iload_n 3 dL_law_1043 rfl ?_
  refine ga_iconst (nI 1) dL_law_1044 (by decide) ?_
  refine ga_iadd dL_law_1045 ?_
  refine ga_top (nI (i + 1)) (nI_add i 1) ?_
  refine ga_sld (vp_in_nI (by omega) (by omega)) dL_law_1046 ?_
  refine gd_V1 km_L_142 kv_X10_keep (c_X10_keep hM1 hW _) (sh161 _) rfl rfl (gt_lroom (by decide)) (Nat.le_of_ble_eq_true rfl) dL_law_1047 (fun r2 w2 q2 => ?_)
  obtain ⟨rfl, hM2, o2⟩ := q2
  refine ga_icmp_eq 1078 dL_law_1050 (by decide) (fun c => ?_) (fun c => absurd rfl c)
  exact kk _ _ _ (gx_XZ_lo o2 hX1) hM2 (gx_ws_keep hW _)
set_option maxRecDepth 100000 in
set_option maxHeartbeats 4000000 in
theorem gl_c31 {l : Launch} {G : gt_G} {nm : String} {i : Nat} {w : gt_W} {c : Nat} {K V : gx_K} {m : Int32} {hs : Nat → gx_K × Int32} {cnt : Nat} {im : Nat → Nat × (gx_K × Int32) × Nat} {sd : Nat} {x : Nat → Nat} {Lt fp : Nat} {Q : gx_K} (hi : i + 5 ≤ G.2.2.2.2.1) (hL : G.2.2.2.2.1 ≤ 320) (hX : gx_X w c K V m hs cnt im sd x Lt fp Q) (hM : gx_M w K V m hs cnt im sd x Lt fp Q) (hW : gx_WF K V m hs cnt im sd x Lt fp Q) (kk : ∀ (w' : gt_W) (c' : Nat) (S : gx_Z), gx_XZ w' c' S → gx_MZ w' S → gx_WZ S → gt_lw l G nm i 1078 w') : gt_lw l G nm i 1055 w := by
  refine ga_aload_n 1 dL_law_1055 rfl ?_
  refine ga_aload_n 0 dL_law_1056 rfl ?_
  refine ga_iload_n 3 dL_law_1057 rfl ?_
  refine ga_iconst (nI 1) dL_law_1058 (by decide) ?_
  refine ga_iadd dL_law_1059 ?_
  refine ga_top (nI (i + 1)) (nI_add i 1) ?_
  refine ga_sld (vp_in_nI (by omega) (by omega)) dL_law_1060 ?_
  refine gd_V1 km_L_143 kv_X9_goBack (c_X9_goBack hX hW _) (sh1 _) rfl rfl (gt_lroom (by decide)) (Nat.le_of_ble_eq_true rfl) dL_law_1061 (fun r1 w1 q1 => ?_)
  obtain ⟨rfl, ⟨c1, hX1⟩, o1⟩ := q1
  have hM1 := gx_M_hi o1 hM
  refine ga_aload_n 2 dL_law_1064 rfl ?_
  refine ga_aload_n 0 dL_law_1065 rfl ?_
  refine ga_iload_n 3 dL_law_1066 rfl ?_
  refine ga_iconst (nI 1) dL_law_1067 (by decide) ?_
  refine ga_iadd dL_law_1068 ?_
  refine ga_top (nI (i + 1)) (nI_add i 1) ?_
  refine ga_sld (vp_in_nI (by omega) (by omega)) dL_law_1069 ?_
  refine gd_V1 km_L_146 kv_X10_goBack (c_X10_goBack hM1 hW _) (sh161 _) rfl rfl (gt_lroom (by decide)) (Nat.le_of_ble_eq_true rfl) dL_law_1070 (fun r2 w2 q2 => ?_)
  obtain ⟨rfl, hM2, o2⟩ := q2
  refine ga_icmp_eq 1078 dL_law_1073 (by decide) (fun c => ?_) (fun c => absurd rfl c)
  exact kk _ _ _ (gx_XZ_lo o2 hX1) hM2 (gx_ws_back hW _)
