/-! a town as a row of numbers (as the model has it), and what an hour makes of the row -/
def tvF (j : Nat) : Nat := ([11, 3, 10, 8, 9, 13, 5, 6, 7, 4] : List Nat).getD j 0
def tv (mi : Mem) (t : Nat) : Nat → Int32 := fun j => if j < 10 then mi t (tvF j) else if j < 18 then mi (t + 1) (j - 10) else if j < 26 then mi (t + 2) (j - 18) else mi (t + 9 + (j - 26) / 5) ((j - 26) % 5)
def eqOn (N : Nat) (f g : Nat → Int32) : Prop := ∀ j, j < N → f j = g j
/-- of the town at t only its numbers, its attics and its scratch rows differ -/
def Frt (t : Nat) (mi m : Mem) : Prop := ∀ a, a ≠ t → ¬ (t + 9 ≤ a ∧ a < t + 17) → a ≠ t + 6 → a ≠ t + 7 → m a = mi a
theorem Frt.rf (t : Nat) (mi : Mem) : Frt t mi mi := fun _ _ _ _ _ => rfl
theorem Frt.tr {t : Nat} {a b c : Mem} (h : Frt t a b) (k : Frt t b c) : Frt t a c := fun x h1 h2 h3 h4 => (k x h1 h2 h3 h4).trans (h x h1 h2 h3 h4)
theorem Frt.scr {t : Nat} {a b : Mem} (h : Scr t a b) : Frt t a b := fun x _ _ h3 h4 => h x h3 h4
theorem Frt.up0 {t : Nat} {mi m : Mem} {f : Nat} {v : Int32} (h : Frt t mi m) : Frt t mi (m_up m t f v) := fun x h1 h2 h3 h4 => by rw [m_up_ne h1]; exact h x h1 h2 h3 h4
theorem Frt.upA {t a : Nat} {mi m : Mem} {f : Nat} {v : Int32} (h : Frt t mi m) (ha : a < 8) : Frt t mi (m_up m (t + 9 + a) f v) := fun x h1 h2 h3 h4 => by rw [m_up_ne (by omega)]; exact h x h1 h2 h3 h4
theorem tv_up0 {N t j : Nat} {m : Mem} {B : Nat → Int32} {v : Int32} (hj : j < 10) (h : eqOn N (tv m t) B) : eqOn N (tv (m_up m t (tvF j) v) t) (upd B j v) := by
  intro i hi
  have h0 := h i hi
  have inj : ∀ a, a < 10 → ∀ b, b < 10 → tvF a = tvF b → a = b := by decide
  simp only [tv] at h0 ⊢
  by_cases c1 : i < 10
  · by_cases c2 : i = j
    · subst c2; simp [m_up, upd, c1]
    · have : tvF i ≠ tvF j := fun e => c2 (inj i c1 j hj e)
      simp [m_up, upd, c1, c2, this] at h0 ⊢; exact h0
  · have c2 : i ≠ j := by omega
    simp only [c1, if_false] at h0 ⊢
    simp only [upd, c2, if_false]
    rw [m_up_ne (show t + 1 ≠ t by omega), m_up_ne (show t + 2 ≠ t by omega), m_up_ne (show t + 9 + (i - 26) / 5 ≠ t by omega)]
    exact h0
theorem tv_upA {N t a f : Nat} {m : Mem} {B : Nat → Int32} {v : Int32} (ha : a < 8) (hf : f < 5) (h : eqOn N (tv m t) B) : eqOn N (tv (m_up m (t + 9 + a) f v) t) (upd B (26 + 5 * a + f) v) := by
  intro i hi
  have h0 := h i hi
  simp only [tv] at h0 ⊢
  rw [m_up_ne (show t ≠ t + 9 + a by omega), m_up_ne (show t + 1 ≠ t + 9 + a by omega), m_up_ne (show t + 2 ≠ t + 9 + a by omega)]
  by_cases c1 : i < 26
  · have c2 : i ≠ 26 + 5 * a + f := by omega
    simp only [upd, c2, if_false]
    by_cases c3 : i < 10
    · simp only [c3, if_true] at h0 ⊢; exact h0
    · by_cases c4 : i < 18
      · simp only [c3, c4, if_true, if_false] at h0 ⊢; exact h0
      · simp only [c3, c4, c1, if_true, if_false] at h0 ⊢; exact h0
  · simp only [show ¬ i < 10 by omega, show ¬ i < 18 by omega, c1, if_false] at h0 ⊢
    by_cases c2 : i = 26 + 5 * a + f
    · subst c2
      have e1 : (26 + 5 * a + f - 26) / 5 = a := by omega
      have e2 : (26 + 5 * a + f - 26) % 5 = f := by omega
      simp [e1, e2, m_up, upd]
    · have : ¬ (t + 9 + (i - 26) / 5 = t + 9 + a ∧ (i - 26) % 5 = f) := fun e => c2 (by omega)
      simp only [m_up, this, if_false, upd, c2]
      exact h0
theorem tv_scr {N t : Nat} {m m' : Mem} {B : Nat → Int32} (hs : Scr t m m') (h : eqOn N (tv m t) B) : eqOn N (tv m' t) B := by
  intro i hi
  rw [← h i hi]
  simp only [tv]
  rw [hs t (by omega) (by omega), hs (t + 1) (by omega) (by omega), hs (t + 2) (by omega) (by omega), hs (t + 9 + (i - 26) / 5) (by omega) (by omega)]
theorem tv_0 {N t j : Nat} {m : Mem} {B : Nat → Int32} (h : eqOn N (tv m t) B) (hj : j < 10) (hN : 26 ≤ N) : m t (tvF j) = B j := by
  have := h j (by omega)
  simpa [tv, hj] using this
theorem tv_A {N t a f : Nat} {m : Mem} {B : Nat → Int32} (h : eqOn N (tv m t) B) (hf : f < 5) (hN : 26 + 5 * a + f < N) : m (t + 9 + a) f = B (26 + 5 * a + f) := by
  have := h _ hN
  simp only [tv, show ¬ 26 + 5 * a + f < 10 by omega, show ¬ 26 + 5 * a + f < 18 by omega, show ¬ 26 + 5 * a + f < 26 by omega, if_false, show (26 + 5 * a + f - 26) / 5 = a by omega, show (26 + 5 * a + f - 26) % 5 = f by omega] at this
  exact this
theorem tv_home {N t k : Nat} {m : Mem} {B : Nat → Int32} (h : eqOn N (tv m t) B) (hk : k < 8) (hN : 26 ≤ N) : m (t + 1) k = B (10 + k) := by
  have := h (10 + k) (by omega)
  simp only [tv, show ¬ 10 + k < 10 by omega, show 10 + k < 18 by omega, if_false, if_true, show 10 + k - 10 = k by omega] at this
  exact this
theorem tv_price {N t k : Nat} {m : Mem} {B : Nat → Int32} (h : eqOn N (tv m t) B) (hk : k < 8) (hN : 26 ≤ N) : m (t + 2) k = B (18 + k) := by
  have := h (18 + k) (by omega)
  simp only [tv, show ¬ 18 + k < 10 by omega, show ¬ 18 + k < 18 by omega, show 18 + k < 26 by omega, if_false, if_true, show 18 + k - 18 = k by omega] at this
  exact this
theorem seesTo_congr {p q : Nat → Bool} : ∀ n, (∀ k, k < n → p k = q k) → seesTo p n = seesTo q n
  | 0, _ => rfl
  | n + 1, h => by
    simp only [seesTo]
    rw [h n (by omega), seesTo_congr n (fun k hk => h k (by omega))]
theorem fld_congr {g h : Int32 → Nat → Int32} {z : Int32} : ∀ n, (∀ s k, k < n → g s k = h s k) → fld g z n = fld h z n
  | 0, _ => rfl
  | n + 1, e => by
    simp only [fld]
    rw [e _ n (by omega), fld_congr n (fun s k hk => e s k (by omega))]
theorem cSees_congr {h h' : Nat → Int32} {a b c d e : Int32} (hh : ∀ k, k < 8 → h k = h' k) : cSees h a b c d e = cSees h' a b c d e := seesTo_congr 8 (fun k hk => by simp only [cSeeB, hh k hk])
theorem cPrices_congr {h h' : Nat → Int32} {a : Int32} (hh : ∀ k, k < 8 → h k = h' k) : cPrices h a = cPrices h' a := fld_congr 8 (fun s k hk => by simp only [hh k hk])
/-- rows: what attic a sees, its rent -/
def rSee (A : Nat → Int32) (a : Nat) : Int32 := cSees (fun k => A (10 + k)) (A 2) (A 9) (A (26 + 5 * a)) (A (26 + 5 * a + 1)) (A (26 + 5 * a + 2))
def rRent (lw : LawT) (A : Nat → Int32) (a : Nat) : Int32 := cRentP (A (26 + 5 * a)) (rSee A a) (plainF lw (cPrices (fun k => A (18 + k)) (rSee A a)) (jBits (rSee A a)) (A 2) (sWide (A 2) (A (26 + 5 * a)) (A (26 + 5 * a + 2))))
theorem rSee_of {N t a : Nat} {m : Mem} {B : Nat → Int32} (h : eqOn N (tv m t) B) (hN : 26 + 5 * a + 5 ≤ N) : cSeesQ m t (t + 9 + a) = rSee B a := by
  unfold cSeesQ rSee
  rw [cSees_congr (fun k hk => tv_home h hk (by omega)), tv_A (f := 0) h (by decide) (by omega), tv_A (f := 1) h (by decide) (by omega), tv_A (f := 2) h (by decide) (by omega), show (10 : Nat) = tvF 2 from rfl, show (4 : Nat) = tvF 9 from rfl, tv_0 h (by decide) (by omega), tv_0 h (by decide) (by omega)]
  rfl
theorem cRent_of {S : Sg} {N t a : Nat} {m : Mem} {B : Nat → Int32} (h : eqOn N (tv m t) B) (hN : 26 + 5 * a + 5 ≤ N) : cRent S m t (t + 9 + a) = rRent (lwC S m t 0) B a := by
  unfold cRent rRent
  rw [rSee_of h hN, cPrices_congr (fun k hk => tv_price h hk (by omega)), tv_A (f := 0) h (by decide) (by omega), tv_A (f := 2) h (by decide) (by omega), show (10 : Nat) = tvF 2 from rfl, tv_0 h (by decide) (by omega)]
  rfl
def pay1 (lw : LawT) (A : Nat → Int32) (a : Nat) : Nat → Int32 :=
  upd (upd (upd A (26 + 5 * a + 3) (A (26 + 5 * a + 3) - minI (A (26 + 5 * a + 3)) (rRent lw A a))) (26 + 5 * a + 4) (minI 9999 (A (26 + 5 * a + 4) + rRent lw A a - minI (A (26 + 5 * a + 3)) (rRent lw A a)))) 3 (A 3 + minI (A (26 + 5 * a + 3)) (rRent lw A a))
def paysTo (lw : LawT) (A : Nat → Int32) : Nat → Nat → Int32
  | 0 => A
  | k + 1 => pay1 lw (paysTo lw A k) k
def wageTo (A : Nat → Int32) : Nat → Nat → Int32
  | 0 => A
  | k + 1 => upd (wageTo A k) (26 + 5 * k + 3) (minI 9999 (wageTo A k (26 + 5 * k + 3) + wageTo A k 8))
theorem paysTo_lo {lw : LawT} {A : Nat → Int32} {j : Nat} (hj : j < 26) (h3 : j ≠ 3) : ∀ k, paysTo lw A k j = A j
  | 0 => rfl
  | k + 1 => by
    simp only [paysTo, pay1, upd, h3, show j ≠ 26 + 5 * k + 3 by omega, show j ≠ 26 + 5 * k + 4 by omega, if_false]
    exact paysTo_lo hj h3 k
theorem wageTo_lo {A : Nat → Int32} {j : Nat} (hj : j < 26) : ∀ k, wageTo A k j = A j
  | 0 => rfl
  | k + 1 => by
    simp only [wageTo, upd, show j ≠ 26 + 5 * k + 3 by omega, if_false]
    exact wageTo_lo hj k
def dr1 (A : Nat → Int32) : Int32 := jr (jus (nz1 (A 0)) 8) 100
def dr2 (A : Nat → Int32) : Int32 := jr (jus (nz1 (nz1 (A 0))) 8) 100
def hA0 (A : Nat → Int32) : Nat → Int32 := upd A 0 (nz1 (nz1 (A 0)))
def hPay (lw : LawT) (n : Nat) (A : Nat → Int32) : Nat → Int32 := if dr1 A < A 6 then upd (hA0 A) 4 (A 4 + 1) else paysTo lw (hA0 A) n
def hSm (A B : Nat → Int32) : Nat → Int32 := if dr2 A < A 7 then upd (upd B 0 (nz1 (B 0))) 9 (B 9 ^^^ (1 <<< (jr (jus (nz1 (B 0)) 8) 24 &&& 31))) else B
def hWage (n : Nat) (B : Nat → Int32) : Nat → Int32 := if jr (B 2) 24 = 6 then wageTo B n else B
def hEnd (B : Nat → Int32) : Nat → Int32 := upd B 2 (B 2 + 1)
/-- an hour -/
def hourF (lw : LawT) (n : Nat) (A : Nat → Int32) : Nat → Int32 := hEnd (hWage n (hSm A (hPay lw n A)))
theorem hPay_lo {lw : LawT} {n j : Nat} {A : Nat → Int32} (hj : j < 26) (h0 : j ≠ 0) (h3 : j ≠ 3) (h4 : j ≠ 4) : hPay lw n A j = A j := by
  unfold hPay
  split
  · simp [upd, hA0, h0, h4]
  · rw [paysTo_lo hj h3]; simp [hA0, upd, h0]
theorem tx_far {S : Sg} {mi m : Mem} {t p len : Nat} (hT : TwA S t) (hf : Frt t mi m) (hx : TxA S p len) : m (p + 1) = mi (p + 1) := by
  have k_t := hT.1
  have k_c := hT.2.2.2.2.2.1.2
  have k_n := hT.2.2.2.2.2.2.1.2
  have a_t := hT.2.2.2.2.2.2.2.2.2
  have n1 : p + 1 ≠ t := Kd_ne hx.2.2.1 k_t (by decide)
  have n2 : p ≠ t + 5 := Kd_ne hx.1 k_c (by decide)
  have n3 : p ≠ t + 6 := Kd_ne hx.1 k_n (by decide)
  have n4 : ∀ i, i < 8 → p + 1 ≠ t + 9 + i := fun i hi => Kd_ne hx.2.2.1 (a_t i hi).2 (by decide)
  refine hf _ n1 (fun hh => n4 (p + 1 - (t + 9)) (by omega) (by omega)) (by omega) (by omega)
theorem tx_same {S : Sg} {mi m : Mem} {t : Nat} (hf : Frt t mi m) (j : Nat) : txOf S m t j = txOf S mi t j := by
  have e5 : m (t + 5) = mi (t + 5) := hf (t + 5) (by omega) (by omega) (by omega) (by omega)
  simp only [txOf, e5]
theorem TxOk.fr {S : Sg} {mi m : Mem} {t j : Nat} (hT : TwA S t) (h : TxOk S mi t j) (hf : Frt t mi m) : TxOk S m t j := by
  intro p hp
  rw [tx_same hf] at hp
  obtain ⟨len, h1, h2⟩ := h p hp
  exact ⟨len, h1, by rw [tx_far hT hf h1]; exact h2⟩
theorem lwC_fr {S : Sg} {mi m : Mem} {t j : Nat} (hT : TwA S t) (h : TxOk S mi t j) (hf : Frt t mi m) : lwC S m t j = lwC S mi t j := by
  have e : ∀ p, txOf S mi t j = some p → m (p + 1) = mi (p + 1) := fun p hp => by
    obtain ⟨len, h1, -⟩ := h p hp
    exact tx_far hT hf h1
  unfold lwC
  rw [tx_same hf]
  generalize txOf S mi t j = o at e
  cases o with
  | none => rw [Option.map_none, Option.map_none]
  | some p => rw [Option.map_some, Option.map_some, e p rfl]
