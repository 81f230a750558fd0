/-! what a row holds, and that both sides see alike there -/
def hiI (j : Nat) : Nat := if j = 8 then 999 else if j < 18 then 23 else if j < 26 then 99 else if (j - 26) % 5 = 0 then 5 else if (j - 26) % 5 = 1 then 23 else if (j - 26) % 5 = 2 then 12 else 9999
def loI (j : Nat) : Nat := if 26 ≤ j ∧ (j - 26) % 5 = 2 then 1 else 0
def rel (n j : Nat) : Prop := j = 8 ∨ (10 ≤ j ∧ j < 26 + 5 * n)
def RgT (n h T : Nat) (A : Nat → Int32) : Prop := n ≤ 8 ∧ A 2 = nI h ∧ (∃ tk, tk ≤ T ∧ A 3 = nI tk) ∧ ∀ j, rel n j → ∃ q, loI j ≤ q ∧ q ≤ hiI j ∧ A j = nI q
theorem RgT.up {n h T j : Nat} {A : Nat → Int32} {v : Int32} (k : RgT n h T A) (h2 : j ≠ 2) (h3 : j ≠ 3) (hv : rel n j → ∃ q, loI j ≤ q ∧ q ≤ hiI j ∧ v = nI q) : RgT n h T (upd A j v) := by
  obtain ⟨k1, k2, k3, k4⟩ := k
  refine ⟨k1, by rw [upd_ne (Ne.symm h2)]; exact k2, by rw [upd_ne (Ne.symm h3)]; exact k3, fun i hi => ?_⟩
  by_cases e : i = j
  · rw [e, upd_at]
    exact hv (e ▸ hi)
  · rw [upd_ne e]
    exact k4 i hi
theorem RgT.cg {n h T : Nat} {A B : Nat → Int32} (k : RgT n h T A) (e : ∀ j, (j = 2 ∨ j = 3 ∨ rel n j) → B j = A j) : RgT n h T B := by
  obtain ⟨k1, k2, k3, k4⟩ := k
  refine ⟨k1, by rw [e 2 (Or.inl rfl)]; exact k2, by rw [e 3 (Or.inr (Or.inl rfl))]; exact k3, fun i hi => ?_⟩
  rw [e i (Or.inr (Or.inr hi))]
  exact k4 i hi
theorem hi_A (a f : Nat) (hf : f < 5) : hiI (26 + 5 * a + f) = if f = 0 then 5 else if f = 1 then 23 else if f = 2 then 12 else 9999 := by
  have e : (26 + 5 * a + f - 26) % 5 = f := by omega
  unfold hiI
  rw [if_neg (by omega), if_neg (by omega), if_neg (by omega), e]
theorem lo_A (a f : Nat) (hf : f < 5) : loI (26 + 5 * a + f) = if f = 2 then 1 else 0 := by
  have e : (26 + 5 * a + f - 26) % 5 = f := by omega
  unfold loI
  rw [e]
  by_cases g : f = 2
  · rw [if_pos g, if_pos ⟨by omega, g⟩]
  · rw [if_neg g, if_neg (fun z => g z.2)]
theorem rg_kind {n h T a : Nat} {A : Nat → Int32} (k : RgT n h T A) (ha : a < n) : ∃ q, q ≤ 5 ∧ A (26 + 5 * a) = nI q := by
  obtain ⟨q, _, q2, q3⟩ := k.2.2.2 (26 + 5 * a + 0) (Or.inr ⟨by omega, by omega⟩)
  rw [hi_A a 0 (by decide)] at q2
  exact ⟨q, q2, q3⟩
theorem rg_face {n h T a : Nat} {A : Nat → Int32} (k : RgT n h T A) (ha : a < n) : ∃ q, q ≤ 23 ∧ A (26 + 5 * a + 1) = nI q := by
  obtain ⟨q, _, q2, q3⟩ := k.2.2.2 (26 + 5 * a + 1) (Or.inr ⟨by omega, by omega⟩)
  rw [hi_A a 1 (by decide)] at q2
  exact ⟨q, q2, q3⟩
theorem rg_width {n h T a : Nat} {A : Nat → Int32} (k : RgT n h T A) (ha : a < n) : ∃ q, 1 ≤ q ∧ q ≤ 12 ∧ A (26 + 5 * a + 2) = nI q := by
  obtain ⟨q, q1, q2, q3⟩ := k.2.2.2 (26 + 5 * a + 2) (Or.inr ⟨by omega, by omega⟩)
  rw [hi_A a 2 (by decide)] at q2
  rw [lo_A a 2 (by decide)] at q1
  exact ⟨q, q1, q2, q3⟩
theorem rg_coin {n h T a : Nat} {A : Nat → Int32} (k : RgT n h T A) (ha : a < n) : ∃ q, q ≤ 9999 ∧ A (26 + 5 * a + 3) = nI q := by
  obtain ⟨q, _, q2, q3⟩ := k.2.2.2 (26 + 5 * a + 3) (Or.inr ⟨by omega, by omega⟩)
  rw [hi_A a 3 (by decide)] at q2
  exact ⟨q, q2, q3⟩
theorem rg_owes {n h T a : Nat} {A : Nat → Int32} (k : RgT n h T A) (ha : a < n) : ∃ q, q ≤ 9999 ∧ A (26 + 5 * a + 4) = nI q := by
  obtain ⟨q, _, q2, q3⟩ := k.2.2.2 (26 + 5 * a + 4) (Or.inr ⟨by omega, by omega⟩)
  rw [hi_A a 4 (by decide)] at q2
  exact ⟨q, q2, q3⟩
theorem rg_home {n h T k : Nat} {A : Nat → Int32} (g : RgT n h T A) (hk : k < 8) : ∃ q, q ≤ 23 ∧ A (10 + k) = nI q := by
  obtain ⟨q, _, q2, q3⟩ := g.2.2.2 (10 + k) (Or.inr ⟨by omega, by omega⟩)
  rw [hiI, if_neg (by omega), if_pos (by omega)] at q2
  exact ⟨q, q2, q3⟩
theorem rg_price {n h T k : Nat} {A : Nat → Int32} (g : RgT n h T A) (hk : k < 8) : ∃ q, q ≤ 99 ∧ A (18 + k) = nI q := by
  obtain ⟨q, _, q2, q3⟩ := g.2.2.2 (18 + k) (Or.inr ⟨by omega, by omega⟩)
  rw [hiI, if_neg (by omega), if_neg (by omega), if_pos (by omega)] at q2
  exact ⟨q, q2, q3⟩
theorem rg_wage {n h T : Nat} {A : Nat → Int32} (g : RgT n h T A) : ∃ q, q ≤ 999 ∧ A 8 = nI q := by
  obtain ⟨q, _, q2, q3⟩ := g.2.2.2 8 (Or.inl rfl)
  exact ⟨q, q2, q3⟩
/-! what is seen -/
theorem jr_n {a d : Nat} (ha : a < 2 ^ 31) (h0 : 0 < d) (hd : d < 2 ^ 31) : jr (nI a) (nI d) = nI (a % d) := pk_rem ha h0 hd
theorem hid_eq {chim : Int32} {c b : Nat} (hb : b < 24) (hc : c ≤ 5) : decide (sHide chim (nI c) >>> (nI b &&& 31) &&& 1 = 0) = !mHidB chim (nI c) (nI b) := by
  have b32 : b < 32 := by omega
  have e0 : ∀ x : Int32, decide (x >>> (nI b &&& 31) &&& 1 = 0) = !bt x b := fun x => by
    by_cases g : bt x b = true
    · rw [decide_eq_false (fun z => (bit_0 b32 x).mp z g), g]; rfl
    · rw [decide_eq_true ((bit_0 b32 x).mpr g), Bool.eq_false_iff.mpr g]; rfl
  have e1 : decide (chim >>> (nI b &&& 31) &&& 1 = 1) = bt chim b := by
    by_cases g : bt chim b = true
    · rw [decide_eq_true ((bit_1 b32 chim).mpr g), g]
    · rw [decide_eq_false (fun z => g ((bit_1 b32 chim).mp z)), Bool.eq_false_iff.mpr g]
  have hj : jr (nI b) 2 = 1 ↔ b % 2 = 1 := by
    have e : jr (nI b) 2 = nI (b % 2) := jr_n (d := 2) (by omega) (by decide) (by decide)
    rw [e]
    exact nI_eq (b := 1) (by omega) (by decide)
  have hm : ∀ b, b < 24 → bt 11184810 b = decide (b % 2 = 1) := by decide +kernel
  have kk : ∀ c, c < 6 → (nI c = 2 ↔ c = 2) ∧ (nI c = 4 ↔ c = 4) := by decide
  have k := kk c (by omega)
  rw [e0]
  unfold sHide mHidB
  rw [e1]
  simp only [k.1, k.2, hj]
  by_cases c2 : c = 2
  · subst c2
    rw [if_pos rfl, b_and, hm b hb]
    cases bt chim b <;> cases decide (b % 2 = 1) <;> rfl
  · rw [if_neg c2]
    by_cases c4 : c = 4
    · subst c4
      rw [if_pos rfl, b_0]
      cases bt chim b <;> rfl
    · rw [if_neg c4, decide_eq_false c2, decide_eq_false c4]
      cases bt chim b <;> rfl
theorem wide_eq {hour kind : Int32} {w : Nat} (hw : w ≤ 12) : mWide hour kind (nI w) = sWide hour kind (nI w) := by
  have f : ∀ w, w < 13 → clampI (2 * (nI w + 2)) 0 24 = minI 24 (2 * (nI w + 2)) := by decide
  unfold mWide sWide
  rw [f w (by omega)]
theorem see_eq {n h T a : Nat} {A : Nat → Int32} (g : RgT n h T A) (hh : h ≤ 20000) (ha : a < n) : rSees A a = rSee A a := by
  obtain ⟨c, c1, c2⟩ := rg_kind g ha
  obtain ⟨w, _, w1, w2⟩ := rg_width g ha
  have hm : ∀ k, k < 8 → ∃ q, q ≤ 23 ∧ A (10 + k) = nI q := fun k hk => rg_home g hk
  unfold rSees rSee mSees cSees
  rw [c2, w2, g.2.1]
  generalize A (26 + 5 * a + 1) = fc
  generalize A 9 = ch
  generalize hA : (fun k => A (10 + k)) = hf
  have hm2 : ∀ k, k < 8 → ∃ q, q ≤ 23 ∧ hf k = nI q := fun k hk => by rw [← hA]; exact hm k hk
  clear hm hA
  refine seesTo_congr 8 (fun k hk => ?_)
  obtain ⟨q, q1, q2⟩ := hm2 k hk
  have ej : jr (nI (q + h)) 24 = nI ((q + h) % 24) := jr_n (d := 24) (by omega) (by decide) (by decide)
  unfold mSeeB cSeeB
  rw [q2, nI_add, ej, wide_eq w1, hid_eq (by omega) c1]
theorem prices_eq (price : Nat → Int32) (set : Int32) : mPrices price set = cPrices price set := by
  unfold mPrices cPrices
  refine fld_congr 8 (fun s k hk => ?_)
  rcases bit_01 (set >>> (nI k &&& 31)) with e | e
  · rw [e, if_neg (by decide), Int32.zero_mul]
  · rw [e, if_pos rfl, Int32.one_mul]
theorem prices_in {price : Nat → Int32} (set : Int32) (hp : ∀ k, k < 8 → ∃ q, q ≤ 99 ∧ price k = nI q) : ∃ q, q ≤ 792 ∧ cPrices price set = nI q := by
  have hi : ∀ m, m ≤ 8 → ∃ q, q ≤ 99 * m ∧ fld (fun s k => s + (set >>> (nI k &&& 31) &&& 1) * price k) 0 m = nI q := by
    intro m
    induction m with
    | zero => intro _; exact ⟨0, by omega, rfl⟩
    | succ m ih =>
      intro hm
      obtain ⟨q, q1, q2⟩ := ih (by omega)
      obtain ⟨p, p1, p2⟩ := hp m (by omega)
      simp only [fld]
      rw [q2, p2]
      rcases bit_01 (set >>> (nI m &&& 31)) with e | e
      · rw [e, Int32.zero_mul, Int32.add_zero]
        exact ⟨q, by omega, rfl⟩
      · rw [e, Int32.one_mul, nI_add]
        exact ⟨q + p, by omega, rfl⟩
  exact hi 8 (Nat.le_refl 8)
theorem clamp_in (z : Int32) {m : Nat} (hm : m < 2 ^ 31) : ∃ q, q ≤ m ∧ clampI z 0 (nI m) = nI q := by
  unfold clampI
  by_cases c1 : z < 0
  · rw [if_pos c1]; exact ⟨0, by omega, rfl⟩
  · rw [if_neg c1]
    obtain ⟨j, hj, rfl⟩ := nI_of c1
    by_cases c2 : nI m < nI j
    · rw [if_pos c2]; exact ⟨m, Nat.le_refl m, rfl⟩
    · rw [if_neg c2]
      exact ⟨j, by have : ¬ m < j := fun g => c2 ((nI_ltI hm hj).mpr g); omega, rfl⟩
theorem plain_eq (lw : LawT) (p b h w : Int32) : mPlainF lw p b h w = plainF lw p b h w := by
  cases lw with
  | none => rfl
  | some f => exact (held_clamp (by decide)).symm
theorem plain_in {lw : LawT} {q : Nat} {b h w : Int32} (hq : q ≤ 9999) : ∃ r, r ≤ 9999 ∧ plainF lw (nI q) b h w = nI r := by
  cases lw with
  | none => exact ⟨q, hq, rfl⟩
  | some f =>
    show ∃ r, r ≤ 9999 ∧ maxI 0 (minI 9999 (f (nI q) b h w)) = nI r
    rw [held_clamp (by decide)]
    exact clamp_in _ (m := 9999) (by decide)
theorem max_1 {p : Nat} (hp : p < 2 ^ 31) : maxI 0 (nI p - 1) = nI (p - 1) := by
  cases p with
  | zero => decide
  | succ p =>
    rw [nI_pred, Nat.add_sub_cancel]
    unfold maxI
    by_cases c : (0 : Int32) < nI p
    · rw [if_pos c]
    · rw [if_neg c]
      have h0 : ¬ 0 < p := fun g => c ((nI_ltI (a := 0) (by decide) (by omega)).mpr g)
      rw [show p = 0 by omega]
      rfl
theorem if_1 {p : Nat} (hp : p < 2 ^ 31) : (if (0 : Int32) < nI p then nI p - 1 else 0) = nI (p - 1) := by
  by_cases c : (0 : Int32) < nI p
  · rw [if_pos c]
    have h0 : 0 < p := (nI_ltI (a := 0) (by decide) hp).mp c
    exact nI_sub1 h0
  · rw [if_neg c]
    have h0 : ¬ 0 < p := fun g => c ((nI_ltI (a := 0) (by decide) hp).mpr g)
    rw [show p - 1 = 0 by omega]
    rfl
theorem rentP_eq {kind seen : Int32} {p : Nat} (hp : p ≤ 9999) : mRentP kind seen (nI p) = cRentP kind seen (nI p) := by
  unfold mRentP cRentP
  rw [jBits_pop, max_1 (by omega), if_1 (by omega)]
  by_cases c1 : kind = 1
  · rw [if_pos c1, if_pos c1]
  · rw [if_neg c1, if_neg c1]
    by_cases c2 : kind = 2
    · rw [if_pos c2, if_neg (by rw [c2]; decide), if_pos c2]
    · rw [if_neg c2, if_neg c2]
theorem rentP_in {kind seen : Int32} {p : Nat} (hp : p ≤ 9999) : ∃ r, r ≤ 10034 ∧ cRentP kind seen (nI p) = nI r := by
  unfold cRentP
  rw [jBits_pop, max_1 (by omega)]
  repeat' split
  · exact ⟨p - 1, by omega, rfl⟩
  · exact ⟨(p - 1) / 2, by omega, pk_div (d := 2) (by omega) (by decide) (by decide)⟩
  · exact ⟨p + 3, by omega, nI_add p 3⟩
  · refine ⟨p + 3 + pcN (uV seen), by have := pcN_le 32 _ (uV_lt seen); omega, ?_⟩
    show nI p + nI 3 + popI seen = _
    rw [popI, nI_add, nI_add]
  · exact ⟨p, by omega, rfl⟩
theorem rent_eq {n h T a : Nat} {A : Nat → Int32} {lw : LawT} (g : RgT n h T A) (hh : h ≤ 20000) (ha : a < n) : mRent lw A a = rRent lw A a := by
  obtain ⟨w, _, w1, w2⟩ := rg_width g ha
  unfold mRent rRent
  rw [see_eq g hh ha, prices_eq, ← jBits_pop, w2, wide_eq w1, plain_eq]
  obtain ⟨q, q1, q2⟩ := prices_in (price := fun k => A (18 + k)) (rSee A a) (fun k hk => rg_price g hk)
  rw [q2]
  obtain ⟨r, r1, r2⟩ := plain_in (lw := lw) (b := jBits (rSee A a)) (h := A 2) (w := sWide (A 2) (A (26 + 5 * a)) (nI w)) (q := q) (by omega)
  rw [r2]
  exact rentP_eq r1
theorem rent_in {n h T a : Nat} {A : Nat → Int32} {lw : LawT} (g : RgT n h T A) : ∃ r, r ≤ 10034 ∧ rRent lw A a = nI r := by
  unfold rRent
  obtain ⟨q, q1, q2⟩ := prices_in (price := fun k => A (18 + k)) (rSee A a) (fun k hk => rg_price g hk)
  rw [q2]
  obtain ⟨r, r1, r2⟩ := plain_in (lw := lw) (b := jBits (rSee A a)) (h := A 2) (w := sWide (A 2) (A (26 + 5 * a)) (A (26 + 5 * a + 2))) (q := q) (by omega)
  rw [r2]
  exact rentP_in r1
