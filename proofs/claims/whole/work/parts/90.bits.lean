/-! bits (the family bt and nx_and, nx_xor begin as kit/laws/BITS.to-paste) -/
def bt (x : Int32) (i : Nat) : Bool := x.toBitVec.getLsbD i
theorem b_ext {x y : Int32} (h : ∀ i, i < 32 → bt x i = bt y i) : x = y := Int32.toBitVec_inj.mp (BitVec.eq_of_getLsbD_eq (fun i hi => h i hi))
theorem b_or (x y : Int32) (i : Nat) : bt (x ||| y) i = (bt x i || bt y i) := by unfold bt; rw [Int32.toBitVec_or, BitVec.getLsbD_or]
theorem b_and (x y : Int32) (i : Nat) : bt (x &&& y) i = (bt x i && bt y i) := by unfold bt; rw [Int32.toBitVec_and, BitVec.getLsbD_and]
theorem b_xor (x y : Int32) (i : Nat) : bt (x ^^^ y) i = (bt x i ^^ bt y i) := by unfold bt; rw [Int32.toBitVec_xor, BitVec.getLsbD_xor]
theorem b_big {x : Int32} {i : Nat} (h : 32 ≤ i) : bt x i = false := BitVec.getLsbD_of_ge _ _ h
theorem b_255 (i : Nat) : bt 255 i = decide (i < 8) := by
  rcases Nat.lt_or_ge i 32 with h | h
  · exact (by decide +kernel : ∀ i, i < 32 → bt 255 i = decide (i < 8)) i h
  · rw [b_big h, decide_eq_false (by omega)]
theorem b_m1 : ∀ i, i < 32 → bt (-1) i = true := by decide +kernel
theorem b_0 (i : Nat) : bt 0 i = false := BitVec.getLsbD_zero
theorem s_l : ∀ n, n < 32 → ((nI n &&& 31).toBitVec.smod 32).toNat = n := by decide +kernel
theorem s_u : ∀ n, n < 32 → (((nI n).toUInt32 &&& Int32.toUInt32 31).toBitVec % 32).toNat = n := by decide +kernel
theorem b_shl (n : Nat) (hn : n < 32) (x : Int32) {i : Nat} (hi : i < 32) : bt (x <<< (nI n &&& 31)) i = (decide (n ≤ i) && bt x (i - n)) := by
  unfold bt
  rw [Int32.toBitVec_shiftLeft]
  show (x.toBitVec <<< ((nI n &&& 31).toBitVec.smod 32).toNat).getLsbD i = _
  rw [s_l n hn, BitVec.getLsbD_shiftLeft]
  rcases Nat.lt_or_ge i n with h | h
  · simp [h, Nat.not_le.mpr h]
  · simp [hi, h, Nat.not_lt.mpr h]
theorem b_ushr (n : Nat) (hn : n < 32) (x : Int32) (i : Nat) : bt ((x.toUInt32 >>> ((nI n).toUInt32 &&& Int32.toUInt32 31)).toInt32) i = bt x (n + i) := by
  show (x.toUInt32 >>> ((nI n).toUInt32 &&& Int32.toUInt32 31)).toBitVec.getLsbD i = x.toUInt32.toBitVec.getLsbD (n + i)
  rw [UInt32.toBitVec_shiftRight]
  show (x.toUInt32.toBitVec >>> (((nI n).toUInt32 &&& Int32.toUInt32 31).toBitVec % 32).toNat).getLsbD i = _
  rw [s_u n hn, BitVec.getLsbD_ushiftRight]
theorem b_sshr (n : Nat) (hn : n < 32) (x : Int32) {i : Nat} (hi : i < 32) : bt (x >>> (nI n &&& 31)) i = if n + i < 32 then bt x (n + i) else bt x 31 := by
  unfold bt
  rw [Int32.toBitVec_shiftRight]
  show (x.toBitVec.sshiftRight ((nI n &&& 31).toBitVec.smod 32).toNat).getLsbD i = _
  rw [s_l n hn, BitVec.getLsbD_sshiftRight, BitVec.msb_eq_getLsbD_last]
  simp [hi]
theorem nx_and (a b : Nat) : nI a &&& nI b = nI (a &&& b) := by
  apply Int32.toBitVec_inj.1
  show BitVec.ofNat 32 a &&& BitVec.ofNat 32 b = BitVec.ofNat 32 (a &&& b)
  apply BitVec.eq_of_getLsbD_eq
  intro i hi
  simp [hi]
theorem nx_xor (a b : Nat) : nI a ^^^ nI b = nI (a ^^^ b) := by
  apply Int32.toBitVec_inj.1
  show BitVec.ofNat 32 a ^^^ BitVec.ofNat 32 b = BitVec.ofNat 32 (a ^^^ b)
  apply BitVec.eq_of_getLsbD_eq
  intro i hi
  simp [hi]
theorem b_1 : ∀ i, i < 32 → bt 1 i = decide (i = 0) := by decide +kernel
theorem b_one {n i : Nat} (hn : n < 32) (hi : i < 32) : bt (1 <<< (nI n &&& 31)) i = decide (i = n) := by
  rw [b_shl n hn 1 hi]
  by_cases h : n ≤ i
  · rw [decide_eq_true h, Bool.true_and, b_1 _ (by omega)]
    by_cases e : i = n
    · rw [decide_eq_true e, decide_eq_true (by omega)]
    · rw [decide_eq_false e, decide_eq_false (by omega)]
  · rw [decide_eq_false h, Bool.false_and, decide_eq_false (by omega)]
/-- one bit -/
theorem bit_at {n : Nat} (hn : n < 32) (x : Int32) : x >>> (nI n &&& 31) &&& 1 = if bt x n = true then 1 else 0 := by
  apply b_ext
  intro i hi
  rw [b_and, b_sshr n hn x hi, b_1 i hi]
  by_cases h : i = 0
  · subst h
    rw [if_pos (by omega), decide_eq_true rfl, Bool.and_true, Nat.add_zero]
    by_cases c : bt x n = true
    · rw [if_pos c, c]; rfl
    · rw [if_neg c, Bool.eq_false_iff.mpr c]; rfl
  · rw [decide_eq_false h, Bool.and_false]
    by_cases c : bt x n = true
    · rw [if_pos c, b_1 i hi, decide_eq_false h]
    · rw [if_neg c, b_0]
theorem bit_01 (x : Int32) : x &&& 1 = 0 ∨ x &&& 1 = 1 := by
  obtain ⟨j, hj, e⟩ := pk_andE x (m := 1) 1 (by decide)
  have h : j = 0 ∨ j = 1 := by omega
  rcases h with rfl | rfl
  · exact Or.inl e
  · exact Or.inr e
theorem bit_1 {n : Nat} (hn : n < 32) (x : Int32) : (x >>> (nI n &&& 31) &&& 1 = 1) ↔ bt x n = true := by
  rw [bit_at hn]
  by_cases c : bt x n = true
  · rw [if_pos c]; exact ⟨fun _ => c, fun _ => rfl⟩
  · rw [if_neg c]; exact ⟨fun g => absurd g (by decide), fun g => absurd g c⟩
theorem bit_0 {n : Nat} (hn : n < 32) (x : Int32) : (x >>> (nI n &&& 31) &&& 1 = 0) ↔ ¬ bt x n = true := by
  rw [bit_at hn]
  by_cases c : bt x n = true
  · rw [if_pos c]; exact ⟨fun g => absurd g (by decide), fun g => absurd c g⟩
  · rw [if_neg c]; exact ⟨fun _ => c, fun _ => rfl⟩
theorem xor_on {n : Nat} (hn : n < 32) {x : Int32} (h : ¬ bt x n = true) : x ^^^ (1 <<< (nI n &&& 31)) = x ||| (1 <<< (nI n &&& 31)) := by
  apply b_ext
  intro i hi
  rw [b_xor, b_or, b_one hn hi]
  by_cases e : i = n
  · subst e
    rw [Bool.eq_false_iff.mpr h, decide_eq_true rfl]; rfl
  · rw [decide_eq_false e, Bool.xor_false, Bool.or_false]
theorem or_on {n : Nat} (hn : n < 32) {x : Int32} (h : bt x n = true) : x ||| (1 <<< (nI n &&& 31)) = x := by
  apply b_ext
  intro i hi
  rw [b_or, b_one hn hi]
  by_cases e : i = n
  · subst e
    rw [h]; rfl
  · rw [decide_eq_false e, Bool.or_false]
theorem xor_off {n : Nat} (hn : n < 32) {x : Int32} (h : bt x n = true) : x ^^^ (1 <<< (nI n &&& 31)) = x &&& ((1 <<< (nI n &&& 31)) ^^^ (-1)) := by
  apply b_ext
  intro i hi
  rw [b_xor, b_and, b_xor, b_one hn hi, b_m1 i hi]
  by_cases e : i = n
  · subst e
    rw [h, decide_eq_true rfl]; rfl
  · rw [decide_eq_false e, Bool.xor_false, Bool.false_xor, Bool.and_true]
theorem and_off {n : Nat} (hn : n < 32) {x : Int32} (h : ¬ bt x n = true) : x &&& ((1 <<< (nI n &&& 31)) ^^^ (-1)) = x := by
  apply b_ext
  intro i hi
  rw [b_and, b_xor, b_one hn hi, b_m1 i hi]
  by_cases e : i = n
  · subst e
    rw [Bool.eq_false_iff.mpr h]; rfl
  · rw [decide_eq_false e, Bool.false_xor, Bool.and_true]
theorem demorgan (x s r : Int32) : x &&& ((s ||| r) ^^^ (-1)) = (x &&& (s ^^^ (-1))) &&& (r ^^^ (-1)) := by
  apply b_ext
  intro i hi
  simp only [b_and, b_xor, b_or, b_m1 i hi]
  cases bt x i <;> cases bt s i <;> cases bt r i <;> rfl
theorem or_zero (x : Int32) : x ||| 0 = x := by
  apply b_ext
  intro i hi
  rw [b_or, b_0, Bool.or_false]
theorem shl_0 {n : Nat} (hn : n < 32) : (0 : Int32) <<< (nI n &&& 31) = 0 := by
  apply b_ext
  intro i hi
  rw [b_shl n hn 0 hi, b_0, b_0, Bool.and_false]
