/-! how many bits: the model's loop -/
def pcN (v : Nat) : Nat := if h : v = 0 then 0 else v % 2 + pcN (v / 2)
termination_by v
decreasing_by omega
theorem pcN_0 : pcN 0 = 0 := by rw [pcN]; simp
theorem pcN_s {v : Nat} (h : v ≠ 0) : pcN v = v % 2 + pcN (v / 2) := by rw [pcN]; simp [h]
theorem pcN_2 (w : Nat) : pcN (2 * w) = pcN w := by
  by_cases h : w = 0
  · subst h; rfl
  · rw [pcN_s (by omega), show 2 * w % 2 = 0 by omega, show 2 * w / 2 = w by omega, Nat.zero_add]
theorem pcN_21 (w : Nat) : pcN (2 * w + 1) = pcN w + 1 := by
  rw [pcN_s (by omega), show (2 * w + 1) % 2 = 1 by omega, show (2 * w + 1) / 2 = w by omega, Nat.add_comm]
theorem land_2 (a b : Nat) : (2 * a) &&& (2 * b) = 2 * (a &&& b) := by
  apply Nat.eq_of_testBit_eq
  intro i
  cases i with
  | zero => simp [Nat.testBit_zero]
  | succ n => rw [Nat.testBit_and, Nat.testBit_succ, Nat.testBit_succ, Nat.testBit_succ, show 2 * a / 2 = a by omega, show 2 * b / 2 = b by omega, show 2 * (a &&& b) / 2 = (a &&& b) by omega, Nat.testBit_and]
theorem land_210 (a b : Nat) : (2 * a + 1) &&& (2 * b) = 2 * (a &&& b) := by
  apply Nat.eq_of_testBit_eq
  intro i
  cases i with
  | zero => simp [Nat.testBit_zero]
  | succ n => rw [Nat.testBit_and, Nat.testBit_succ, Nat.testBit_succ, Nat.testBit_succ, show (2 * a + 1) / 2 = a by omega, show 2 * b / 2 = b by omega, show 2 * (a &&& b) / 2 = (a &&& b) by omega, Nat.testBit_and]
theorem land_201 (a b : Nat) : (2 * a) &&& (2 * b + 1) = 2 * (a &&& b) := by
  rw [Nat.and_comm, land_210, Nat.and_comm]
theorem pcN_low : ∀ v, v ≠ 0 → pcN (v &&& (v - 1)) + 1 = pcN v := by
  intro v
  induction v using Nat.strongRecOn with
  | _ v ih =>
    intro hv
    obtain ⟨w, hw⟩ : ∃ w, v = 2 * w + 1 ∨ v = 2 * w := ⟨v / 2, by omega⟩
    rcases hw with rfl | rfl
    · rw [show 2 * w + 1 - 1 = 2 * w by omega, land_210, Nat.and_self, pcN_2, pcN_21]
    · have h1 : w ≠ 0 := by omega
      rw [show 2 * w - 1 = 2 * (w - 1) + 1 by omega, land_201, pcN_2, pcN_2]
      exact ih w (by omega) h1
theorem pcN_pos {v : Nat} (h : v ≠ 0) : 0 < pcN v := by have := pcN_low v h; omega
theorem pcN_le : ∀ (k v : Nat), v < 2 ^ k → pcN v ≤ k := by
  intro k
  induction k with
  | zero => intro v h; rw [show v = 0 by omega, pcN_0]; exact Nat.le_refl 0
  | succ k ih =>
    intro v h
    by_cases hv : v = 0
    · rw [hv, pcN_0]; omega
    · rw [pcN_s hv]
      have := ih (v / 2) (by rw [Nat.pow_succ] at h; omega)
      omega
def uV (x : Int32) : Nat := x.toBitVec.toNat
theorem uV_and (x y : Int32) : uV (x &&& y) = uV x &&& uV y := by unfold uV; rw [Int32.toBitVec_and, BitVec.toNat_and]
theorem uV_lt (x : Int32) : uV x < 2 ^ 32 := x.toBitVec.isLt
theorem uV_0 {x : Int32} : uV x = 0 ↔ x = 0 := by
  constructor
  · intro h
    apply Int32.toBitVec_inj.mp
    apply BitVec.eq_of_toNat_eq
    exact h
  · rintro rfl; rfl
theorem uV_dec {x : Int32} (h : ¬ x = 0) : uV (x - 1) = uV x - 1 := by
  have h0 : uV x ≠ 0 := fun q => h (uV_0.mp q)
  have hl := uV_lt x
  unfold uV at *
  rw [Int32.toBitVec_sub, BitVec.toNat_sub]
  have e : (1 : Int32).toBitVec.toNat = 1 := by decide
  rw [e]
  omega
def popI (x : Int32) : Int32 := nI (pcN (uV x))
