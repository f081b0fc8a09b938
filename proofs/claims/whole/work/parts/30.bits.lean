/-! bits of an int -/
theorem gx_k31 : ∀ k, k < 32 → (nI k &&& 31) = nI k := by decide +kernel
theorem gx_ksm : ∀ k, k < 32 → (nI k).toBitVec.smod 32 = BitVec.ofNat 32 k := by decide +kernel
theorem gx_shr (x : Int32) {k : Nat} (hk : k < 32) : (x >>> (nI k &&& 31)).toBitVec = x.toBitVec.sshiftRight k := by
  rw [gx_k31 k hk, Int32.toBitVec_shiftRight, gx_ksm k hk]
  show x.toBitVec.sshiftRight (BitVec.ofNat 32 k).toNat = _
  rw [BitVec.toNat_ofNat, Nat.mod_eq_of_lt (by omega)]
theorem gx_bit1 (x : Int32) {k : Nat} (hk : k < 32) : (x >>> (nI k &&& 31)) &&& nI 1 = nI 1 ↔ x.toBitVec.getLsbD k = true := by
  rw [← Int32.toBitVec_inj, Int32.toBitVec_and, gx_shr x hk, show (nI 1).toBitVec = 1#32 from rfl, BitVec.and_one_eq_setWidth_ofBool_getLsbD, BitVec.getLsbD_sshiftRight]
  have h1 : k + 0 < 32 := by omega
  simp only [Nat.add_zero]
  rw [if_pos (by omega)]
  cases h : x.toBitVec.getLsbD k <;> simp <;> omega
theorem gx_bit0 (x : Int32) {k : Nat} (hk : k < 32) : (x >>> (nI k &&& 31)) &&& nI 1 = 0 ↔ x.toBitVec.getLsbD k = false := by
  rw [← Int32.toBitVec_inj, Int32.toBitVec_and, gx_shr x hk, show (nI 1).toBitVec = 1#32 from rfl, show (0 : Int32).toBitVec = 0#32 from rfl, BitVec.and_one_eq_setWidth_ofBool_getLsbD, BitVec.getLsbD_sshiftRight]
  have h1 : k + 0 < 32 := by omega
  simp only [Nat.add_zero]
  rw [if_pos (by omega)]
  cases h : x.toBitVec.getLsbD k <;> simp <;> omega
theorem gx_one : ∀ k, k < 32 → (nI 1 <<< (nI k &&& 31)).toBitVec = BitVec.twoPow 32 k := by decide +kernel
theorem gx_bit_one {j k : Nat} (hk : k < 32) : (nI 1 <<< (nI k &&& 31)).toBitVec.getLsbD j = decide (j = k) := by
  rw [gx_one k hk, BitVec.getLsbD_twoPow]
  by_cases h : j = k
  · subst h; simp [hk]
  · have h2 : ¬ k = j := fun q => h q.symm
    simp [h, h2]
theorem gx_bit_or (x y : Int32) (k : Nat) : (x ||| y).toBitVec.getLsbD k = (x.toBitVec.getLsbD k || y.toBitVec.getLsbD k) := by
  rw [Int32.toBitVec_or, BitVec.getLsbD_or]
theorem gx_bit_set {P : Nat → Prop} [DecidablePred P] : ∀ n, n ≤ 31 → ∀ k, (gx_set P n).toBitVec.getLsbD k = decide (k < n ∧ P k)
  | 0, _, k => by
    show (nI 0).toBitVec.getLsbD k = _
    rw [show (nI 0).toBitVec = 0#32 from rfl]
    simp
  | n + 1, h, k => by
    have ih := gx_bit_set (P := P) n (by omega) k
    by_cases hp : P n
    · rw [gx_set_t hp, gx_bit_or, ih, gx_bit_one (by omega)]
      by_cases e : k = n
      · subst e; simp [hp]
      · have e1 : (k < n + 1) ↔ k < n := by omega
        simp [e, e1]
    · rw [gx_set_f hp, ih]
      by_cases e : k = n
      · subst e; simp [hp]
      · have e1 : (k < n + 1) ↔ k < n := by omega
        simp [e1]
theorem gx_bit_slept {P : Nat → Prop} [DecidablePred P] {n p : Nat} (hn : n ≤ 31) (hp : p < n) : ((gx_set P n) >>> (nI p &&& 31)) &&& nI 1 = nI 1 ↔ P p := by
  rw [gx_bit1 _ (by omega), gx_bit_set n hn p]
  simp [hp]
