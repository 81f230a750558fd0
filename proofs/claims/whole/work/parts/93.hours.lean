/-! hours: both sides alike -/
theorem min_n {a b : Nat} (ha : a < 2 ^ 31) (hb : b < 2 ^ 31) : minI (nI a) (nI b) = nI (min a b) := by
  unfold minI
  by_cases c : nI b < nI a
  · rw [if_pos c]
    have := (nI_ltI hb ha).mp c
    rw [show min a b = b by omega]
  · rw [if_neg c]
    have : ¬ b < a := fun g => c ((nI_ltI hb ha).mpr g)
    rw [show min a b = a by omega]
theorem clamp_n {z m : Nat} (hz : z < 2 ^ 31) (hm : m < 2 ^ 31) : clampI (nI z) 0 (nI m) = nI (min m z) := by
  unfold clampI
  rw [if_neg (nI_pos hz)]
  by_cases c : nI m < nI z
  · rw [if_pos c]
    have := (nI_ltI hm hz).mp c
    rw [show min m z = m by omega]
  · rw [if_neg c]
    have : ¬ m < z := fun g => c ((nI_ltI hm hz).mpr g)
    rw [show min m z = z by omega]
theorem upd_comm {A : Nat → Int32} {i j : Nat} {v w : Int32} (h : i ≠ j) : upd (upd A i v) j w = upd (upd A j w) i v := by
  funext k
  simp only [upd]
  by_cases c1 : k = j
  · rw [if_pos c1, if_neg (by omega), if_pos c1]
  · rw [if_neg c1]
    by_cases c2 : k = i
    · rw [if_pos c2, if_pos c2]
    · rw [if_neg c2, if_neg c2, if_neg c1]
theorem pay_eq {n h T a : Nat} {A : Nat → Int32} {lw : LawT} (g : RgT n h T A) (hh : h ≤ 20000) (hT : T < 2 ^ 30) (ha : a < n) : mPay1 lw A a = pay1 lw A a ∧ RgT n h (T + 9999) (pay1 lw A a) := by
  obtain ⟨r, r1, r2⟩ := rent_in (a := a) (lw := lw) g
  obtain ⟨c, c1, c2⟩ := rg_coin g ha
  obtain ⟨o, o1, o2⟩ := rg_owes g ha
  obtain ⟨tk, t1, t2⟩ := g.2.2.1
  have n8 := g.1
  have em := min_n (a := c) (b := r) (by omega) (by omega)
  have eo : nI o + nI r - nI (min c r) = nI (o + r - min c r) := by rw [nI_add, pk_sub (by omega)]
  have ec : nI c - nI (min c r) = nI (c - min c r) := pk_sub (by omega)
  have e9 : minI 9999 (nI (o + r - min c r)) = nI (min 9999 (o + r - min c r)) := min_n (a := 9999) (by decide) (by omega)
  have k9 : clampI (nI (o + r - min c r)) 0 9999 = nI (min 9999 (o + r - min c r)) := clamp_n (m := 9999) (by omega) (by decide)
  constructor
  · unfold mPay1 pay1
    rw [rent_eq g hh ha, r2, c2, o2, em, eo, e9, k9]
    exact upd_comm (by omega)
  · unfold pay1
    rw [r2, c2, o2, t2, em, eo, e9, ec, nI_add]
    have g1 : RgT n h T (upd (upd A (26 + 5 * a + 3) (nI (c - min c r))) (26 + 5 * a + 4) (nI (min 9999 (o + r - min c r)))) := by
      refine (g.up (by omega) (by omega) (fun _ => ⟨c - min c r, ?_, ?_, rfl⟩)).up (by omega) (by omega) (fun _ => ⟨min 9999 (o + r - min c r), ?_, ?_, rfl⟩)
      · rw [lo_A a 3 (by decide)]; exact Nat.zero_le _
      · rw [hi_A a 3 (by decide)]; show _ ≤ 9999; omega
      · rw [lo_A a 4 (by decide)]; exact Nat.zero_le _
      · rw [hi_A a 4 (by decide)]; show _ ≤ 9999; omega
    obtain ⟨k1, k2, k3, k4⟩ := g1
    refine ⟨k1, by rw [upd_ne (by decide)]; exact k2, ⟨tk + min c r, by omega, upd_at _ _ _⟩, fun j hj => ?_⟩
    have j3 : j ≠ 3 := by rcases hj with hj | hj <;> omega
    rw [upd_ne j3]
    exact k4 j hj
theorem pays_eq {n h T : Nat} {A : Nat → Int32} {lw : LawT} (g : RgT n h T A) (hh : h ≤ 20000) (hT : T + 79992 < 2 ^ 30) : ∀ k, k ≤ n → mPaysTo lw A k = paysTo lw A k ∧ RgT n h (T + 9999 * k) (paysTo lw A k)
  | 0, _ => ⟨rfl, g⟩
  | k + 1, hk => by
    have n8 := g.1
    obtain ⟨e, r⟩ := pays_eq g hh hT k (by omega)
    simp only [mPaysTo, paysTo]
    rw [e]
    have p := pay_eq (lw := lw) r hh (by omega) (show k < n by omega)
    refine ⟨p.1, ?_⟩
    rw [show T + 9999 * (k + 1) = T + 9999 * k + 9999 by omega]
    exact p.2
theorem wage_eq {n h T : Nat} {A : Nat → Int32} (g : RgT n h T A) : ∀ k, k ≤ n → mWageTo A k = wageTo A k ∧ RgT n h T (wageTo A k)
  | 0, _ => ⟨rfl, g⟩
  | k + 1, hk => by
    obtain ⟨e, r⟩ := wage_eq g k (by omega)
    simp only [mWageTo, wageTo]
    rw [e]
    obtain ⟨c, c1, c2⟩ := rg_coin r (show k < n by omega)
    obtain ⟨w, w1, w2⟩ := rg_wage r
    rw [c2, w2, nI_add, show clampI (nI (c + w)) 0 9999 = nI (min 9999 (c + w)) from clamp_n (m := 9999) (by omega) (by decide), show minI 9999 (nI (c + w)) = nI (min 9999 (c + w)) from min_n (a := 9999) (by decide) (by omega)]
    refine ⟨rfl, r.up (by omega) (by omega) (fun _ => ⟨min 9999 (c + w), ?_, ?_, rfl⟩)⟩
    · rw [lo_A k 3 (by decide)]; exact Nat.zero_le _
    · rw [hi_A k 3 (by decide)]; show _ ≤ 9999; omega
theorem RgT.wid {n h T U : Nat} {A : Nat → Int32} (g : RgT n h T A) (hTU : T ≤ U) : RgT n h U A := by
  obtain ⟨k1, k2, ⟨tk, t1, t2⟩, k4⟩ := g
  exact ⟨k1, k2, ⟨tk, by omega, t2⟩, k4⟩
theorem RgT.up9 {n h T j : Nat} {A : Nat → Int32} {v : Int32} (g : RgT n h T A) (hj : j = 0 ∨ j = 1 ∨ j = 4 ∨ j = 5 ∨ j = 6 ∨ j = 7 ∨ j = 9 ∨ 66 ≤ j) : RgT n h T (upd A j v) := by
  have n8 := g.1
  exact g.up (by omega) (by omega) (fun r => by rcases r with r | r <;> omega)
theorem hour_eq {n h T : Nat} {A : Nat → Int32} {lw : LawT} (g : RgT n h T A) (hh : h ≤ 20000) (hT : T + 79992 < 2 ^ 30) : mHourF lw n A = hourF lw n A ∧ RgT n (h + 1) (T + 79992) (hourF lw n A) := by
  have n8 := g.1
  have g0 : RgT n h T (hA0 A) := g.up9 (Or.inl rfl)
  have p : mPay lw n A = hPay lw n A ∧ RgT n h (T + 79992) (hPay lw n A) := by
    unfold mPay hPay
    by_cases c : dr1 A < A 6
    · rw [if_pos c, if_pos c]
      exact ⟨rfl, (g0.up9 (by omega)).wid (by omega)⟩
    · rw [if_neg c, if_neg c]
      obtain ⟨e, r⟩ := pays_eq (lw := lw) g0 hh hT n (Nat.le_refl n)
      exact ⟨e, r.wid (by omega)⟩
  have s : RgT n h (T + 79992) (hSm A (hPay lw n A)) := by
    unfold hSm
    split
    · exact (p.2.up9 (by omega)).up9 (by omega)
    · exact p.2
  have w : mWage n (hSm A (hPay lw n A)) = hWage n (hSm A (hPay lw n A)) ∧ RgT n h (T + 79992) (hWage n (hSm A (hPay lw n A))) := by
    unfold mWage hWage
    by_cases c : jr (hSm A (hPay lw n A) 2) 24 = 6
    · rw [if_pos c, if_pos c]
      exact wage_eq s n (Nat.le_refl n)
    · rw [if_neg c, if_neg c]
      exact ⟨rfl, s⟩
  unfold mHourF hourF
  rw [p.1, w.1]
  refine ⟨rfl, ?_⟩
  obtain ⟨k1, k2, k3, k4⟩ := w.2
  unfold hEnd
  refine ⟨k1, by rw [upd_at, k2, nI_1], by rw [upd_ne (by decide)]; exact k3, fun j hj => ?_⟩
  have j2 : j ≠ 2 := by rcases hj with hj | hj <;> omega
  rw [upd_ne j2]
  exact k4 j hj
/-- .. with what can have been taken -/
def Rg (n h : Nat) (A : Nat → Int32) : Prop := RgT n h (79992 * h) A
theorem hours_eq {n h : Nat} {A : Nat → Int32} {lw : LawT} (g : Rg n h A) : ∀ k, h + k ≤ 10300 → mHours lw n A k = cHours lw n A k ∧ Rg n (h + k) (cHours lw n A k)
  | 0, _ => ⟨rfl, g⟩
  | k + 1, hk => by
    obtain ⟨e, r⟩ := hours_eq (lw := lw) g k (by omega)
    simp only [mHours, cHours]
    rw [e]
    have p := hour_eq (lw := lw) r (by omega) (by omega)
    refine ⟨p.1, ?_⟩
    unfold Rg
    rw [show 79992 * (h + (k + 1)) = 79992 * (h + k) + 79992 by omega]
    exact p.2
theorem rg_taken {n h : Nat} {A : Nat → Int32} (g : Rg n h A) (hh : h ≤ 10300) : ∃ tk, tk < 2 ^ 31 ∧ A 3 = nI tk := by
  obtain ⟨tk, t1, t2⟩ := g.2.2.1
  exact ⟨tk, by omega, t2⟩
