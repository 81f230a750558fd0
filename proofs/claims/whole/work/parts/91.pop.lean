/-! how many bits: the JDK's bitCount is the model's loop -/
theorem pcN_step (v : Nat) : pcN v = v % 2 + pcN (v / 2) := by
  by_cases h : v = 0
  · subst h
    rw [show 0 / 2 = 0 from rfl, pcN_0]
  · exact pcN_s h
def pc8 (v : Nat) : Nat := v % 2 + (v / 2 % 2 + (v / 4 % 2 + (v / 8 % 2 + (v / 16 % 2 + (v / 32 % 2 + (v / 64 % 2 + v / 128 % 2))))))
theorem pcN_8 (v : Nat) : pcN v = pc8 (v % 256) + pcN (v / 256) := by
  rw [pcN_step v, pcN_step (v / 2), pcN_step (v / 2 / 2), pcN_step (v / 2 / 2 / 2), pcN_step (v / 2 / 2 / 2 / 2), pcN_step (v / 2 / 2 / 2 / 2 / 2), pcN_step (v / 2 / 2 / 2 / 2 / 2 / 2), pcN_step (v / 2 / 2 / 2 / 2 / 2 / 2 / 2)]
  simp only [Nat.div_div_eq_div_mul]
  unfold pc8
  have e : v % 256 % 2 = v % 2 ∧ v % 256 / 2 % 2 = v / 2 % 2 ∧ v % 256 / 4 % 2 = v / 4 % 2 ∧ v % 256 / 8 % 2 = v / 8 % 2 ∧ v % 256 / 16 % 2 = v / 16 % 2 ∧ v % 256 / 32 % 2 = v / 32 % 2 ∧ v % 256 / 64 % 2 = v / 64 % 2 ∧ v % 256 / 128 % 2 = v / 128 % 2 := by omega
  obtain ⟨e1, e2, e3, e4, e5, e6, e7, e8⟩ := e
  rw [e1, e2, e3, e4, e5, e6, e7, e8]
  simp only [Nat.add_assoc]
theorem land8 {a b c d : Nat} (hb : b < 256) (hd : d < 256) : (256 * a + b) &&& (256 * c + d) = 256 * (a &&& c) + (b &&& d) := by
  apply Nat.eq_of_testBit_eq
  intro i
  have hb' : b < 2 ^ 8 := hb
  have hd' : d < 2 ^ 8 := hd
  have h1 : (b &&& d) < 2 ^ 8 := Nat.and_lt_two_pow _ hd'
  show ((2 ^ 8 * a + b) &&& (2 ^ 8 * c + d)).testBit i = (2 ^ 8 * (a &&& c) + (b &&& d)).testBit i
  rw [Nat.testBit_and, Nat.testBit_two_pow_mul_add _ hb', Nat.testBit_two_pow_mul_add _ hd', Nat.testBit_two_pow_mul_add _ h1]
  split <;> rw [Nat.testBit_and]
def g1 (b : Nat) : Nat := b - ((b / 2) &&& 85)
def g2 (b : Nat) : Nat := (b &&& 51) + ((b / 4) &&& 51)
def g3 (b : Nat) : Nat := (b + b / 16) &&& 15
theorem st1 {a b M : Nat} (hb : b < 256) : (256 * a + b) - (((256 * a + b) / 2) &&& (256 * M + 85)) = 256 * (a - ((a / 2) &&& M)) + g1 b := by
  have e : (256 * a + b) / 2 = 256 * (a / 2) + (128 * (a % 2) + b / 2) := by omega
  rw [e, land8 (by omega) (by decide)]
  have f : ∀ p, p < 2 → ∀ q, q < 128 → (128 * p + q) &&& 85 = q &&& 85 := by decide +kernel
  rw [f (a % 2) (by omega) (b / 2) (by omega)]
  have l1 : (a / 2) &&& M ≤ a := Nat.le_trans Nat.and_le_left (by omega)
  have l2 : (b / 2) &&& 85 ≤ b := Nat.le_trans Nat.and_le_left (by omega)
  unfold g1
  omega
theorem st2 {a b M : Nat} (hb : b < 256) : ((256 * a + b) &&& (256 * M + 51)) + (((256 * a + b) / 4) &&& (256 * M + 51)) = 256 * ((a &&& M) + ((a / 4) &&& M)) + g2 b := by
  have e : (256 * a + b) / 4 = 256 * (a / 4) + (64 * (a % 4) + b / 4) := by omega
  rw [e, land8 hb (by decide), land8 (by omega) (by decide)]
  have f : ∀ p, p < 4 → ∀ q, q < 64 → (64 * p + q) &&& 51 = q &&& 51 := by decide +kernel
  rw [f (a % 4) (by omega) (b / 4) (by omega)]
  unfold g2
  omega
theorem st3 {a b M : Nat} (ha : a % 16 ≤ 4) (hb : b ≤ 68) : ((256 * a + b) + (256 * a + b) / 16) &&& (256 * M + 15) = 256 * ((a + a / 16) &&& M) + g3 b := by
  have e : (256 * a + b) + (256 * a + b) / 16 = 256 * (a + a / 16) + (16 * (a % 16) + (b + b / 16)) := by omega
  rw [e, land8 (by omega) (by decide)]
  have f : ∀ p, p < 5 → ∀ q, q < 73 → (16 * p + q) &&& 15 = q &&& 15 := by decide +kernel
  rw [f (a % 16) (by omega) (b + b / 16) (by omega)]
  rfl
theorem g_fin : ∀ b, b < 256 → g1 b < 256 ∧ g2 (g1 b) % 16 ≤ 4 ∧ g2 (g1 b) ≤ 68 ∧ g3 (g2 (g1 b)) = pc8 b ∧ pc8 b ≤ 8 := by decide +kernel
theorem uV_sub {x y : Int32} (h : uV y ≤ uV x) : uV (x - y) = uV x - uV y := by
  have h1 := uV_lt x
  have h2 := uV_lt y
  unfold uV at *
  rw [Int32.toBitVec_sub, BitVec.toNat_sub]
  omega
theorem uV_add {x y : Int32} (h : uV x + uV y < 2 ^ 32) : uV (x + y) = uV x + uV y := by
  unfold uV at *
  rw [Int32.toBitVec_add, BitVec.toNat_add, Nat.mod_eq_of_lt h]
theorem uV_j1 (x : Int32) : uV (jus x 1) = uV x / 2 := pk_ushr x 1 1 (by decide)
theorem uV_j2 (x : Int32) : uV (jus x 2) = uV x / 4 := pk_ushr x 2 2 (by decide)
theorem uV_j4 (x : Int32) : uV (jus x 4) = uV x / 16 := pk_ushr x 4 4 (by decide)
theorem uV_j8 (x : Int32) : uV (jus x 8) = uV x / 256 := pk_ushr x 8 8 (by decide)
theorem uV_j16 (x : Int32) : uV (jus x 16) = uV x / 65536 := pk_ushr x 16 16 (by decide)
theorem uV_inj {x y : Int32} (h : uV x = uV y) : x = y := Int32.toBitVec_inj.mp (BitVec.eq_of_toNat_eq h)
theorem pop_jb1 (x : Int32) {b0 b1 b2 b3 : Nat} (h0 : b0 < 256) (h1 : b1 < 256) (h2 : b2 < 256) (e : uV x = 256 * (256 * (256 * b3 + b2) + b1) + b0) : uV (jb1 x) = 256 * (256 * (256 * g1 b3 + g1 b2) + g1 b1) + g1 b0 := by
  have m : uV (1431655765 : Int32) = 256 * (256 * (256 * 85 + 85) + 85) + 85 := by decide +kernel
  unfold jb1
  rw [uV_sub (by rw [uV_and, uV_j1]; exact Nat.le_trans Nat.and_le_left (by omega)), uV_and, uV_j1, m, e, st1 h0, st1 h1, st1 h2]
  rfl
theorem pop_jb2 (x : Int32) {b0 b1 b2 b3 : Nat} (h0 : b0 < 256) (h1 : b1 < 256) (h2 : b2 < 256) (e : uV x = 256 * (256 * (256 * b3 + b2) + b1) + b0) : uV (jb2 x) = 256 * (256 * (256 * g2 b3 + g2 b2) + g2 b1) + g2 b0 := by
  have m : uV (858993459 : Int32) = 256 * (256 * (256 * 51 + 51) + 51) + 51 := by decide +kernel
  unfold jb2
  rw [uV_add ?_, uV_and, uV_and, uV_j2, m, e, st2 h0, st2 h1, st2 h2]
  · rfl
  · rw [uV_and, uV_and, m]
    have p1 : uV x &&& (256 * (256 * (256 * 51 + 51) + 51) + 51) ≤ _ := Nat.and_le_right
    have p2 : uV (jus x 2) &&& (256 * (256 * (256 * 51 + 51) + 51) + 51) ≤ _ := Nat.and_le_right
    omega
theorem pop_jb3 (x : Int32) {b0 b1 b2 b3 : Nat} (h0 : b0 ≤ 68) (h1 : b1 ≤ 68) (h2 : b2 ≤ 68) (h3 : b3 ≤ 68) (n1 : b1 % 16 ≤ 4) (n2 : b2 % 16 ≤ 4) (n3 : b3 % 16 ≤ 4) (e : uV x = 256 * (256 * (256 * b3 + b2) + b1) + b0) : uV (jb3 x) = 256 * (256 * (256 * g3 b3 + g3 b2) + g3 b1) + g3 b0 := by
  have m : uV (252645135 : Int32) = 256 * (256 * (256 * 15 + 15) + 15) + 15 := by decide +kernel
  unfold jb3
  rw [uV_and, uV_add (by rw [uV_j4]; omega), uV_j4, m, e, st3 (by omega) h0, st3 (by omega) h1, st3 n3 h2]
  rfl
theorem jBits_pop (x : Int32) : jBits x = popI x := by
  have hx := uV_lt x
  obtain ⟨b0, hb0⟩ : ∃ b0, b0 = uV x % 256 := ⟨_, rfl⟩
  obtain ⟨b1, hb1⟩ : ∃ b1, b1 = uV x / 256 % 256 := ⟨_, rfl⟩
  obtain ⟨b2, hb2⟩ : ∃ b2, b2 = uV x / 256 / 256 % 256 := ⟨_, rfl⟩
  obtain ⟨b3, hb3⟩ : ∃ b3, b3 = uV x / 256 / 256 / 256 % 256 := ⟨_, rfl⟩
  have e : uV x = 256 * (256 * (256 * b3 + b2) + b1) + b0 := by omega
  have pc : pcN (uV x) = pc8 b0 + (pc8 b1 + (pc8 b2 + pc8 b3)) := by
    rw [pcN_8 (uV x), pcN_8 (uV x / 256), pcN_8 (uV x / 256 / 256), pcN_8 (uV x / 256 / 256 / 256), ← hb0, ← hb1, ← hb2, ← hb3, show uV x / 256 / 256 / 256 / 256 = 0 by omega, pcN_0]
    omega
  have l0 : b0 < 256 := by omega
  have l1 : b1 < 256 := by omega
  have l2 : b2 < 256 := by omega
  have l3 : b3 < 256 := by omega
  clear hb0 hb1 hb2 hb3 hx
  obtain ⟨p0, q0, r0, s0, t0⟩ := g_fin b0 l0
  obtain ⟨p1, q1, r1, s1, t1⟩ := g_fin b1 l1
  obtain ⟨p2, q2, r2, s2, t2⟩ := g_fin b2 l2
  obtain ⟨p3, q3, r3, s3, t3⟩ := g_fin b3 l3
  have e1 := pop_jb1 x l0 l1 l2 e
  have e2 := pop_jb2 (jb1 x) p0 p1 p2 e1
  have e3 := pop_jb3 (jb2 (jb1 x)) r0 r1 r2 r3 q1 q2 q3 e2
  rw [s0, s1, s2, s3] at e3
  have e4 : uV (jb4 (jb3 (jb2 (jb1 x)))) = 256 * (256 * (256 * pc8 b3 + pc8 b2) + pc8 b1) + pc8 b0 + (256 * (256 * pc8 b3 + pc8 b2) + pc8 b1) := by
    unfold jb4
    rw [uV_add (by rw [uV_j8, e3]; omega), uV_j8, e3]
    omega
  have e5 : uV (jb5 (jb4 (jb3 (jb2 (jb1 x))))) = 256 * (256 * (256 * pc8 b3 + pc8 b2) + pc8 b1) + pc8 b0 + (256 * (256 * pc8 b3 + pc8 b2) + pc8 b1) + (256 * pc8 b3 + pc8 b2 + pc8 b3) := by
    unfold jb5
    rw [uV_add (by rw [uV_j16, e4]; omega), uV_j16, e4]
    omega
  apply uV_inj
  unfold popI
  have e6 : uV (nI (pcN (uV x))) = pcN (uV x) := pk_tn (by rw [pc]; omega)
  rw [e6, pc]
  unfold jBits
  have m : uV (63 : Int32) = 2 ^ 6 - 1 := by decide +kernel
  rw [uV_and, e5, m, Nat.and_two_pow_sub_one_eq_mod]
  omega
