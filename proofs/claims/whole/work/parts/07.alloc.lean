section GN
variable {l : Launch} {G : gt_G} {own nm : String} {cc : ByteArray} {mL : Nat} {rt : Option FieldType} {R : Room} {Z : gt_Zt} {n uc us : Nat} {pc : Nat} {lv : List (Nat × Value)} {st : List Value} {h : gt_H}
theorem gt_R_push {H H1 : Heap} {o : gt_Ob} (hR : gt_R G n h H) (hat : va_at G.1 vwCl (H.size, gt_e G o) H1) (hz : H1.size = H.size + 1) (hq : ∀ q : Nat, q < H.size → H1[q]? = H[q]?) : gt_R G (n + 1) (gt_up h (n + 1) o) H1 := by
  refine ⟨fun k ob hk => ?_, by rw [hz, hR.2.1]; omega, fun q hl => ?_⟩
  · unfold gt_up at hk
    by_cases hka : k = n + 1
    · rw [if_pos hka] at hk
      cases hk
      subst hka
      refine ⟨by omega, Nat.le_refl _, ?_⟩
      have e : gt_ad G (n + 1) = H.size := by rw [hR.2.1]; rfl
      rw [e]
      exact hat
    · rw [if_neg hka] at hk
      obtain ⟨q1, q2, q3⟩ := hR.1 k ob hk
      exact ⟨q1, by omega, q3.kept (hq _ q3.lt)⟩
  · rw [hq q (by rw [hR.2.1]; exact Nat.lt_of_lt_of_le hl (Nat.le_add_right _ _))]
    exact hR.2.2 q hl
theorem gt_adS (n : Nat) {H : Heap} (hR : gt_R G n h H) : gt_v G (.ref (n + 1)) = .ref H.size := by
  rw [hR.2.1]; rfl
/-- a class that can be made: its words -/
def gt_Nw (own : String) (idx ci M : Nat) (fs : List Value) : Prop := ∃ (C : String) (T : u_T) (ty0 : Nat → FieldType), vwCl[ci]? = some (C, T, M) ∧ Cond.classLink own idx C ∈ gt_tbl ∧ Cond.instantiable C M ∈ gt_tbl ∧ Cond.initialized C ∈ gt_tbl ∧ (∀ w ∈ u_ws C T M, w ∈ gt_tbl) ∧ (∀ k, k < M → parseFieldDescriptor (T k).2.2.1 = some (ty0 k)) ∧ (∀ j, j < M → defaultValue (ty0 j) = vp_V fs j)
theorem ga_new {idx ci M : Nat} {fs : List Value} (hN : gt_Nw own idx ci M fs) (hfs : fs.map (gt_v G) = fs) (hc : uc + 1 ≤ R.cells) (hs : us + M ≤ R.slots) (hd : decode cc pc = .ok (.new idx, 3)) (kk : gt_A l G own nm cc mL rt R Z (n + 1, uc + 1, us + M) (pc + 3) lv (.ref (n + 1) :: st) (gt_up h (n + 1) (oO ci fs))) : gt_A l G own nm cc mL rt R Z (n, uc, us) pc lv st h :=
  fun p e s m args below meth c H locs ls X hR hL hl => by
    obtain ⟨C, T, ty0, hcl, h1, h2, h3, hin, hty, hdf⟩ := hN
    have hts := X.2.2.2.2.2.2.2.1
    have hK := X.2.2.2.2.2.2.2.2.1
    have hKn := hK.1 ci _ hcl
    refine W.newcK X.1 X.2.1 X.2.2.2.2.2.1 (hts _ h1) (hts _ h2) (hts _ h3) rfl hd hc hs hKn.2.1 rfl fun H1 kC hkC e1 z1 o1 => ?_
    have e9 := kk p e s m args below meth c H1 locs ls X (gt_R_push hR (show va_at G.1 vwCl (H.size, .inr (ci, fs.map (gt_v G))) H1 from ⟨_, hcl, (u_born ty0 hts hin hKn hkC e1 hty).to (fun j hj => by rw [hfs]; exact hdf j hj)⟩) z1 o1) hL hl
    rw [List.map_cons, gt_adS n hR] at e9
    exact e9
theorem ga_newI {i : Int32} {M : Nat} (ha : Cond.arrayClass .int ∈ gt_tbl) (h0 : ¬ i < 0) (hM : i.toNatClampNeg = M) (hb : M ≤ 1000000) (hc : uc + 1 ≤ R.cells) (hs : us + M ≤ R.slots) (hd : decode cc pc = .ok (.newarray .int, 2)) (kk : gt_A l G own nm cc mL rt R Z (n + 1, uc + 1, us + M) (pc + 2) lv (.ref (n + 1) :: st) (gt_up h (n + 1) (oI M (fun _ => 0)))) : gt_A l G own nm cc mL rt R Z (n, uc, us) pc lv (.int i :: st) h :=
  fun p e s m args below meth c H locs ls X hR hL hl => by
    have hts := X.2.2.2.2.2.2.2.1
    have hK := X.2.2.2.2.2.2.2.2.1
    refine va_newaK (atype := .int) X.1 X.2.1 (hts _ ha) rfl hd rfl h0 hM (by show M * 4 ≤ _; omega) hc hs rfl fun H1 cA e1 z1 o1 hAr hNm => ?_
    have hcA : cA = G.2.1 0 := Option.some.inj (hNm.symm.trans (hK.2 0 _ rfl).2)
    subst hcA
    have e9 := kk p e s m args below meth c H1 locs ls X (gt_R_push hR (show va_at G.1 vwCl (H.size, .inl (G.2.1 0, M, .inl (fun _ => 0))) H1 from by
      show H1[H.size]? = some (vp_cell _ _)
      rw [e1, vp_cell_i]
      rfl) z1 o1) hL hl
    rw [List.map_cons, gt_adS n hR] at e9
    exact e9
theorem ga_newZ {i : Int32} {M : Nat} (ha : Cond.arrayClass .boolean ∈ gt_tbl) (h0 : ¬ i < 0) (hM : i.toNatClampNeg = M) (hb : M ≤ 1000000) (hc : uc + 1 ≤ R.cells) (hs : us + M ≤ R.slots) (hd : decode cc pc = .ok (.newarray .boolean, 2)) (kk : gt_A l G own nm cc mL rt R Z (n + 1, uc + 1, us + M) (pc + 2) lv (.ref (n + 1) :: st) (gt_up h (n + 1) (oZ M (fun _ => 0)))) : gt_A l G own nm cc mL rt R Z (n, uc, us) pc lv (.int i :: st) h :=
  fun p e s m args below meth c H locs ls X hR hL hl => by
    have hts := X.2.2.2.2.2.2.2.1
    have hK := X.2.2.2.2.2.2.2.2.1
    refine va_newaK (atype := .boolean) X.1 X.2.1 (hts _ ha) rfl hd rfl h0 hM (by show M * 1 ≤ _; omega) hc hs rfl fun H1 cA e1 z1 o1 hAr hNm => ?_
    have hcA : cA = G.2.1 1 := Option.some.inj (hNm.symm.trans (hK.2 1 _ rfl).2)
    subst hcA
    have e9 := kk p e s m args below meth c H1 locs ls X (gt_R_push hR (show va_at G.1 vwCl (H.size, .inl (G.2.1 1, M, .inl (fun _ => 0))) H1 from by
      show H1[H.size]? = some (vp_cell _ _)
      rw [e1, vp_cell_i]
      rfl) z1 o1) hL hl
    rw [List.map_cons, gt_adS n hR] at e9
    exact e9
theorem ga_newR {idx kd : Nat} {C : String} {i : Int32} {M : Nat} (ha : Cond.classLink own idx C ∈ gt_tbl) (hAO : ∀ s, gt_K G s → va_AO C s) (ht : (gt_tys G)[kd]? = some (G.2.1 kd, .object C)) (h0 : ¬ i < 0) (hM : i.toNatClampNeg = M) (hb : M ≤ 1000000) (hc : uc + 1 ≤ R.cells) (hs : us + M ≤ R.slots) (hd : decode cc pc = .ok (.anewarray idx, 3)) (kk : gt_A l G own nm cc mL rt R Z (n + 1, uc + 1, us + M) (pc + 3) lv (.ref (n + 1) :: st) (gt_up h (n + 1) (oR kd M (fun _ => none)))) : gt_A l G own nm cc mL rt R Z (n, uc, us) pc lv (.int i :: st) h :=
  fun p e s m args below meth c H locs ls X hR hL hl => by
    subst hM
    have hts := X.2.2.2.2.2.2.2.1
    have hK := X.2.2.2.2.2.2.2.2.1
    refine W.anew X.1 X.2.1 X.2.2.2.2.2.1 (hts _ ha) (va_AO.use (hAO s X.2.2.2.2.2.2.2.2)) rfl hd rfl h0 (by omega) hc hs fun cA kA comp f1 f2 f3 f4 => ?_
    obtain ⟨kA', comp', -, -, -, g4⟩ := (hK.2 kd _ ht).2
    have hcA : cA = G.2.1 kd := Option.some.inj (f1.symm.trans g4)
    subst hcA
    have e9 := kk p e s m args below meth c (H.push ({ cls := G.2.1 kd, slots := Array.replicate i.toNatClampNeg .null, vm := .none } : Cell)) locs ls X (gt_R_push hR (show va_at G.1 vwCl (H.size, .inl (G.2.1 kd, i.toNatClampNeg, .inr (.inr (.inr (.inr (fun _ => none)))))) _ from by
      show (Array.push H _)[H.size]? = some (vp_cell _ _)
      rw [vp_cell_q, Array.getElem?_push_size, ← arrV_new]
      rfl) (by rw [Array.size_push]) (fun q hq => by rw [Array.getElem?_push, if_neg (Nat.ne_of_lt hq)])) hL hl
    rw [List.map_cons, gt_adS n hR] at e9
    exact e9
theorem ga_aast {a kd M b ci : Nat} {C : String} {T : u_T} {NN : Nat} {f : Nat → Option Nat} {fs : List Value} {i : Int32} (ho : h a = some (oR kd M f)) (ht : (gt_tys G)[kd]? = some (G.2.1 kd, .object C)) (hb : h b = some (oO ci fs)) (hc : vwCl[ci]? = some (C, T, NN)) (hi : vp_in i M) (hd : decode cc pc = .ok (.aastore, 1)) (kk : gt_A l G own nm cc mL rt R Z (n, uc, us) (pc + 1) lv st (gt_up h a (oR kd M (va_up f i.toNatClampNeg (some b))))) : gt_A l G own nm cc mL rt R Z (n, uc, us) pc lv (.ref b :: .int i :: .ref a :: st) h :=
  fun p e s m args below meth c H locs ls X hR hL hl => by
    have hK := X.2.2.2.2.2.2.2.2.1
    have hlt : i.toNatClampNeg < M := Nat.not_le.mp fun q => hi (Or.inr q)
    have h0 : ¬ i < 0 := fun q => hi (Or.inl q)
    have hca : H[gt_ad G a]? = some (vp_cell (G.2.1 kd) (M, .inr (.inr (.inr (.inr (fun j => (f j).map (gt_ad G))))))) := (hR.1 a _ ho).2.2
    obtain ⟨r', hr', cellV, g1, g2, g3, -⟩ := (hR.1 b _ hb).2.2
    have hcls := (hK.1 ci _ hc).2
    obtain ⟨kA, comp, k1, k2, k3, -⟩ := (hK.2 kd _ ht).2
    have hcomp : comp = G.1.1 ci := Option.some.inj (k3.symm.trans hcls.1)
    subst hcomp
    obtain ⟨kC, hkC, -⟩ := hcls.2
    refine W.aast X.1 X.2.1 hca (fun q h => by cases h) (fun h => by cases h) k1 k2 rfl hkC ⟨h0, by show _ < (arrV _ _ _).slots.size; rw [arrV_size]; exact hlt⟩ g1 (fun q h => by rw [g3] at h; cases h) (by rw [g2]; exact hkC) (by rw [g2]; exact va_assign hcls) rfl rfl hd fun H1 e1 z oq => ?_
    refine kk p e s m args below meth c H1 _ ls X (gt_R_up hR ho ?_ z oq) (fun q hq => ?_) hl
    · show H1[_]? = some (vp_cell _ _)
      rw [e1, vp_cell_q, vp_cell_q, arrV_store]
      congr 2
      funext q
      by_cases hq : q = i.toNatClampNeg
      · subst hq
        simp [updV, va_up, va_rf]
      · simp [updV, va_up, hq]
    · rcases List.mem_append.mp hq with hq | hq
      · exact hL q hq
      · rw [List.mem_singleton.mp hq]; exact gt_ad_lt hR ho
/-- the heap behind new int[N][M] -/
def gt_rows (h : gt_H) (n N M : Nat) : gt_H := fun k => if k = n + 1 then some (oR 4 N (fun i => if i < N then some (n + 2 + i) else none)) else if n + 2 ≤ k ∧ k < n + 2 + N then some (oI M (fun _ => 0)) else h k
theorem gt_outer (c : ClassId) (N h0 : Nat) : ∀ i : Nat, Jvm.Free.Multi.outerC c N h0 i = arrV c N (fun j => va_rf (if j < i then some (h0 + 1 + j) else none))
  | 0 => by
    show ({ cls := c, slots := Array.replicate N .null, vm := .none } : Cell) = _
    rw [arrV_new]
    exact congrArg (arrV c N) (funext fun j => by simp [va_rf])
  | i + 1 => by
    show (Jvm.Free.Multi.outerC c N h0 i).setSlot i (.ref (h0 + 1 + i)) = _
    rw [gt_outer c N h0 i, arrV_store]
    refine congrArg (arrV c N) (funext fun j => ?_)
    rcases Nat.lt_trichotomy j i with q | q | q
    · simp [updV, Nat.ne_of_lt q, q, Nat.lt_succ_of_lt q]
    · subst q; simp [updV, va_rf]
    · simp [updV, Nat.ne_of_gt q, show ¬ j < i by omega, show ¬ j < i + 1 by omega]
theorem ga_multi {idx : Nat} {i k : Int32} {NN M : Nat} (hcl : Cond.classLink own idx "[[I" ∈ gt_tbl) (hac : Cond.arrayClass .int ∈ gt_tbl) (h0 : ¬ i < 0) (h1 : ¬ k < 0) (hN : i.toNatClampNeg = NN) (hM : k.toNatClampNeg = M) (hb : NN ≤ 1000000) (hb2 : M ≤ 1000000) (hc : uc + (1 + NN) ≤ R.cells) (hs : us + (NN + NN * M) ≤ R.slots) (hd : decode cc pc = .ok (.multianewarray idx 2, 4)) (kk : gt_A l G own nm cc mL rt R Z (n + 1 + NN, uc + 1 + NN, us + NN + NN * M) (pc + 4) lv (.ref (n + 1) :: st) (gt_rows h n NN M)) : gt_A l G own nm cc mL rt R Z (n, uc, us) pc lv (.int k :: .int i :: st) h :=
  fun p e s m args below meth c H locs ls X hR hL hl => by
    subst hN; subst hM
    have hts := X.2.2.2.2.2.2.2.1
    have hK := X.2.2.2.2.2.2.2.2.1
    have hov := X.2.2.2.2.2.2.2.2.2.2.2.2.2.2
    intro T hT Xs
    obtain ⟨vm₁, cA, comp, -, fA, fC, hO, -, X', step⟩ := Xs.multianewarray2F (ty := .int) X.1 X.2.2.2.2.2.1 (hts _ hcl) (over_moved (Vm.Alike.refl _) hov) (hts _ hac) (g := F0 m pc ls (.int k :: .int i :: st.map (gt_v G))) rfl (by rw [X.2.1]; exact hd) rfl h0 h1 (by omega) (by show _ * 4 ≤ _; omega) (by omega) rfl rfl hc hs
    have ec : comp = G.2.1 0 := Option.some.inj (fC.symm.trans (hK.2 0 _ rfl).2)
    have eA : cA = G.2.1 4 := Option.some.inj (fA.symm.trans (hK.2 4 _ rfl).2)
    subst ec; subst eA
    generalize hF : Jvm.Free.Multi.fill (T.setVm vm₁) (G.2.1 4) (G.2.1 0) i.toNatClampNeg k.toNatClampNeg (defaultValue .int) i.toNatClampNeg = F at X' step
    have hTh : (T.setVm vm₁).heap = H := hT
    obtain ⟨f1, f2, -, -⟩ := Jvm.Free.Multi.fill_facts (T.setVm vm₁) (G.2.1 4) (G.2.1 0) i.toNatClampNeg k.toNatClampNeg (defaultValue .int) i.toNatClampNeg
    rw [hF, hTh] at f1 f2
    have hold : ∀ x : Nat, x < H.size → F.heap[x]? = H[x]? := fun x hx => by
      have := Jvm.Free.Multi.fill_old (T.setVm vm₁) (G.2.1 4) (G.2.1 0) i.toNatClampNeg k.toNatClampNeg (defaultValue .int) (a := x) (by rw [hTh]; exact hx) i.toNatClampNeg
      rw [hF, hTh] at this
      exact this
    have hrow : ∀ j : Nat, j < i.toNatClampNeg → F.heap[H.size + 1 + j]? = some (vp_cell (G.2.1 0) (k.toNatClampNeg, .inl (fun _ => 0))) := fun j hj => by
      have := Jvm.Free.Multi.fill_inner (T.setVm vm₁) (G.2.1 4) (G.2.1 0) i.toNatClampNeg k.toNatClampNeg (defaultValue .int) i.toNatClampNeg j hj
      rw [hF, hTh] at this
      rw [this, vp_cell_i, ← arrV_new]
      rfl
    rw [gt_outer] at f2
    have hRn : gt_R G (n + 1 + i.toNatClampNeg) (gt_rows h n i.toNatClampNeg k.toNatClampNeg) F.heap := by
      refine ⟨fun q ob hq => ?_, by rw [f1, hR.2.1]; omega, fun q hq => ?_⟩
      · unfold gt_rows at hq
        by_cases q1 : q = n + 1
        · rw [if_pos q1] at hq
          cases hq
          subst q1
          refine ⟨by omega, by omega, ?_⟩
          have e : gt_ad G (n + 1) = H.size := by rw [hR.2.1]; rfl
          rw [e]
          show F.heap[H.size]? = some (vp_cell _ _)
          rw [f2, vp_cell_q]
          congr 2
          funext j
          by_cases hj : j < i.toNatClampNeg
          · simp only [if_pos hj, Option.map_some]
            show va_rf (some (H.size + 1 + j)) = va_rf (some (gt_ad G (n + 2 + j)))
            have e2 : gt_ad G (n + 2 + j) = H.size + 1 + j := by
              rw [hR.2.1, show n + 2 + j = (n + 1 + j) + 1 by omega]
              show gt_B G + (n + 1 + j) = _
              omega
            rw [e2]
          · simp only [if_neg hj, Option.map_none]
        · rw [if_neg q1] at hq
          by_cases q2 : n + 2 ≤ q ∧ q < n + 2 + i.toNatClampNeg
          · rw [if_pos q2] at hq
            cases hq
            refine ⟨by omega, by omega, ?_⟩
            obtain ⟨j, rfl⟩ : ∃ j, q = n + 2 + j := ⟨q - (n + 2), by omega⟩
            have e2 : gt_ad G (n + 2 + j) = H.size + 1 + j := by
              rw [hR.2.1, show n + 2 + j = (n + 1 + j) + 1 by omega]
              show gt_B G + (n + 1 + j) = _
              omega
            rw [e2]
            exact hrow j (by omega)
          · rw [if_neg q2] at hq
            obtain ⟨g1, g2, g3⟩ := hR.1 q ob hq
            exact ⟨g1, by omega, g3.kept (hold _ g3.lt)⟩
      · rw [hold q (by rw [hR.2.1]; exact Nat.lt_of_lt_of_le hq (Nat.le_add_right _ _))]
        exact hR.2.2 q hq
    have e9 := kk p e s m args below meth c F.heap locs ls X hRn hL hl
    rw [List.map_cons, gt_adS n hR] at e9
    obtain ⟨t, a1, b1⟩ := e9 F rfl X'
    refine ⟨t, step t ?_, b1⟩
    have e : T.heap.size = H.size := by rw [hT]
    rw [e]
    exact a1
/-- System.arraycopy between two int arrays -/
theorem ga_copy {idx a0 a n0 n1 : Nat} {f g : Nat → Int32} {sp dp k : Int32} (hl1 : Cond.methodLink own idx arraycopyName ∈ gt_tbl) (h2 : Cond.native arraycopyName ∈ gt_tbl ∧ Cond.static arraycopyName ∈ gt_tbl ∧ Cond.initialized "java/lang/System" ∈ gt_tbl) (ho0 : h a0 = some (oI n0 f)) (ho1 : h a = some (oI n1 g)) (h3 : ¬ sp < 0) (h4 : ¬ dp < 0) (h5 : ¬ k < 0) (h6 : sp.toNatClampNeg + k.toNatClampNeg ≤ n0) (h7 : dp.toNatClampNeg + k.toNatClampNeg ≤ n1) (hr : 1 ≤ R.frames ∧ 40 ≤ R.locals) (hs : (st.map fun v => v.category).sum ≤ 8) (hw : nativeFrameWords "java/lang/System" "arraycopy" 5 + 11 ≤ 32) (hd : decode cc pc = .ok (.invokestatic idx, 3))
    (kk : gt_A l G own nm cc mL rt R Z (n, uc, us) (pc + 3) lv st (gt_up h a (oI n1 (va_cpy f g sp.toNatClampNeg dp.toNatClampNeg k.toNatClampNeg)))) : gt_A l G own nm cc mL rt R Z (n, uc, us) pc lv (.int k :: .int dp :: .ref a :: .int sp :: .ref a0 :: st) h :=
  fun p e s m args below meth c H locs ls X hR hL hl => by
    have hts := X.2.2.2.2.2.2.2.1
    have hK := X.2.2.2.2.2.2.2.2.1
    have nn : ∀ z : Int32, ¬ z < 0 → z.toInt = (z.toNatClampNeg : Int) := fun z hz => by
      have hz0 : (0 : Int) ≤ z.toInt := by simpa using Int32.le_iff_toInt_le.mp (Int32.not_lt.mp hz)
      show z.toInt = ((z.toInt.toNat : Nat) : Int)
      omega
    have hc0 : H[gt_ad G a0]? = some (vp_cell (G.2.1 0) (n0, .inl f)) := (hR.1 a0 _ ho0).2.2
    have hc1 : H[gt_ad G a]? = some (vp_cell (G.2.1 0) (n1, .inl g)) := (hR.1 a _ ho1).2.2
    obtain ⟨-, k0, hk0, cm0, hkk0⟩ := (hK.2 0 _ rfl).1 n0 (fun j => .int (f j))
    obtain ⟨-, k1, hk1, cm1, hkk1⟩ := (hK.2 0 _ rfl).1 n1 (fun j => .int (g j))
    intro T hT Xs
    obtain ⟨vm', X', step⟩ := Xs.arraycopy X.1 X.2.2.2.2.2.1 (hts _ hl1) (hts _ h2.1) (hts _ h2.2.1) (hts _ h2.2.2) (src := gt_ad G a0) (dst := gt_ad G a) (cs := vp_cell (G.2.1 0) (n0, .inl f)) (cd := vp_cell (G.2.1 0) (n1, .inl g)) (srcPos := sp) (destPos := dp) (n := k) (by rw [hT]; exact hc0) (by rw [hT]; exact hc1)
      (fun _ h => by cases h) (fun _ h => by cases h) (fun h => by cases h) (fun h => by cases h) hk0 hk1 hkk0 hkk1 (by simp [refKind]) h3 h4 h5
      (by rw [nn sp h3, nn k h5]; show ¬ _ > ((arrV (G.2.1 0) n0 (fun j => .int (f j))).slots.size : Int); rw [arrV_size]; omega)
      (by rw [nn dp h4, nn k h5]; show ¬ _ > ((arrV (G.2.1 0) n1 (fun j => .int (g j))).slots.size : Int); rw [arrV_size]; omega)
      (fun vm₁ _ i hi => by
        have e : (vp_cell (G.2.1 0) (n0, .inl f)).slots.getD (sp.toNatClampNeg + i) .null = .int (f (sp.toNatClampNeg + i)) := by
          show (arrV (G.2.1 0) n0 (fun j => .int (f j))).slots.getD _ _ = _
          rw [Array.getD_eq_getD_getElem?, arrV_read _ _ (by omega)]
          rfl
        refine ⟨?_, ?_⟩
        · rw [e]; rfl
        · rw [e]; exact trivial)
      (g := F0 m pc ls (.int k :: .int dp :: .ref (gt_ad G a) :: .int sp :: .ref (gt_ad G a0) :: st.map (gt_v G))) rfl (by rw [X.2.2.1]; exact hl.1) (rest := st.map (gt_v G)) rfl (by rw [X.2.1]; exact hd) hr.1 (by have := hr.2; show 2 * 0 + _ + _ ≤ _; rw [gt_catsum]; omega)
    have e1 : copied (vp_cell (G.2.1 0) (n0, .inl f)) (vp_cell (G.2.1 0) (n1, .inl g)) sp dp k = vp_cell (G.2.1 0) (n1, .inl (va_cpy f g sp.toNatClampNeg dp.toNatClampNeg k.toNatClampNeg)) := va_copied (fun z => .int z) _ _ f g h6
    rw [e1] at X' step
    have hl2 : gt_ad G a < H.size := (Array.getElem?_eq_some_iff.mp hc1).1
    have oq : ∀ q : Nat, q ≠ gt_ad G a → (H.setIfInBounds (gt_ad G a) (vp_cell (G.2.1 0) (n1, .inl (va_cpy f g sp.toNatClampNeg dp.toNatClampNeg k.toNatClampNeg))))[q]? = H[q]? := fun q hq => by simp [Array.getElem?_setIfInBounds, Ne.symm hq]
    obtain ⟨t, a1, b1⟩ := kk p e s m args below meth c (H.setIfInBounds (gt_ad G a) (vp_cell (G.2.1 0) (n1, .inl (va_cpy f g sp.toNatClampNeg dp.toNatClampNeg k.toNatClampNeg)))) _ ls X (gt_R_up hR ho1 (by
        show (H.setIfInBounds (gt_ad G a) _)[gt_ad G a]? = some _
        simp [Array.getElem?_setIfInBounds, hl2]) (by simp) oq) (fun q hq => by
        rcases List.mem_append.mp hq with hq | hq
        · exact hL q hq
        · obtain ⟨z, -, hz⟩ := List.mem_map.mp hq
          rw [← hz]
          exact gt_ad_lt hR ho1) hl _ (by rw [← hT]; rfl) X'
    exact ⟨t, step t a1, b1⟩
end GN
