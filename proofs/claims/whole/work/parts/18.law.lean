/-! a law as a function of its names: what it gives doesn't hang on the scratch rows -/
def gDep (s : Nat → Int32) : Nat → Nat
  | 0 => 0
  | k + 1 => if s k < -4 then (if s k = -33 then gDep s k else gDep s k - 1) else gDep s k + 1
def WfC (s : Nat → Int32) (n : Nat) : Prop := 0 < n ∧ n ≤ 96 ∧ ∀ k, k < n → s k < -4 → (s k = -33 → 1 ≤ gDep s k) ∧ (s k ≠ -33 → 2 ≤ gDep s k)
theorem gDep_le (s : Nat → Int32) : ∀ k, gDep s k ≤ k
  | 0 => Nat.le_refl 0
  | k + 1 => by
    have := gDep_le s k
    simp only [gDep]
    grind
theorem nm4 {x : Int32} (h1 : ¬ x < -4) (h2 : x < 0) : (-1 - x).toNatClampNeg < 4 := Nat.not_le.mp fun q => nmIx h1 h2 (Or.inr q)
theorem gRun_wf {s : Nat → Int32} {n : Nat} (h : WfC s n) (nm nm' p p' : Nat → Int32) (hnm : ∀ j, j < 4 → nm j = nm' j) : ∀ k, k ≤ n → (gRun nm s p k).1 = gDep s k ∧ (gRun nm' s p' k).1 = gDep s k ∧ (∀ j, j < gDep s k → (gRun nm s p k).2 j = (gRun nm' s p' k).2 j) ∧ (0 < k → 0 < gDep s k)
  | 0, _ => ⟨rfl, rfl, fun j hj => absurd hj (Nat.not_lt_zero j), fun q => absurd q (Nat.lt_irrefl 0)⟩
  | k + 1, hk => by
    obtain ⟨i1, i2, i3, i4⟩ := gRun_wf h nm nm' p p' hnm k (by omega)
    have hw := h.2.2 k (by omega)
    have hd := gDep_le s k
    have hn := h.2.1
    by_cases c1 : s k < -4
    · by_cases c2 : s k = -33
      · have g1 := (hw c1).1 c2
        simp only [gRun, gStep, gDep, c2, show (-33 : Int32) < -4 from by decide, if_true, i1, i2, show ¬ gDep s k < 1 by omega, if_false]
        refine ⟨trivial, trivial, fun j hj => ?_, fun _ => by omega⟩
        simp only [upd, i3 (gDep s k - 1) (by omega)]
        by_cases hj2 : j = gDep s k - 1
        · simp [hj2]
        · simp [hj2, i3 j hj]
      · have g1 := (hw c1).2 c2
        simp only [gRun, gStep, gDep, c1, c2, if_true, i1, i2, show ¬ gDep s k < 2 by omega, if_false]
        refine ⟨trivial, trivial, fun j hj => ?_, fun _ => by omega⟩
        simp only [upd, i3 (gDep s k - 1) (by omega), i3 (gDep s k - 2) (by omega)]
        by_cases hj2 : j = gDep s k - 2
        · simp [hj2]
        · simp [hj2, i3 j (by omega)]
    · simp only [gRun, gStep, gDep, c1, i1, i2, show gDep s k < 96 by omega, if_true, if_false]
      refine ⟨trivial, trivial, fun j hj => ?_, fun _ => by omega⟩
      simp only [upd]
      by_cases hj2 : j = gDep s k
      · by_cases c3 : s k < 0
        · simp [hj2, c3, hnm _ (nm4 c1 c3)]
        · simp [hj2, c3]
      · simp [hj2, i3 j (by omega)]
/-- what a law gives, of its names -/
def lawF (s : Nat → Int32) (n : Nat) (a b c d : Int32) : Int32 := (gRun (c4 a b c d) s (fun _ => 0) n).2 0
theorem gRun_law {s : Nat → Int32} {n : Nat} (h : WfC s n) {nm p : Nat → Int32} {a b c d : Int32} (h0 : nm 0 = a) (h1 : nm 1 = b) (h2 : nm 2 = c) (h3 : nm 3 = d) : (gRun nm s p n).2 0 = lawF s n a b c d := by
  obtain ⟨-, -, i3, i4⟩ := gRun_wf h nm (c4 a b c d) p (fun _ => 0) (fun j hj => by
    have : j = 0 ∨ j = 1 ∨ j = 2 ∨ j = 3 := by omega
    rcases this with rfl | rfl | rfl | rfl <;> simp [c4, *]) n (Nat.le_refl n)
  exact i3 0 (i4 h.1)
abbrev LawT : Type := Option (Int32 → Int32 → Int32 → Int32 → Int32)
def plainF (lw : LawT) (prices bits hour wide : Int32) : Int32 := match lw with
  | none => prices
  | some f => maxI 0 (minI 9999 (f prices bits hour wide))
/-- the law for key j of the town at t -/
def lwC (S : Sg) (mi : Mem) (t j : Nat) : LawT := (txOf S mi t j).map (fun p => lawF (mi (p + 1)) (S.2.1 (p + 1)).2)
/-- the texts that count are texts -/
def TxOk (S : Sg) (mi : Mem) (t j : Nat) : Prop := ∀ p, txOf S mi t j = some p → ∃ len, TxA S p len ∧ WfC (mi (p + 1)) len
theorem cPlain_law {S : Sg} {mi : Mem} {t q : Nat} {seen : Int32} {nm0 pile : Nat → Int32} (h : TxOk S mi t 0) : cPlain S mi t q seen nm0 pile = plainF (lwC S mi t 0) (cPrices (mi (t + 2)) seen) (jBits seen) (mi t 10) (sWide (mi t 10) (mi q 0) (mi q 2)) := by
  unfold cPlain lwC
  cases hx : txOf S mi t 0 with
  | none => rfl
  | some p =>
    obtain ⟨len, h1, h2⟩ := h p hx
    simp only [Option.map_some, plainF, h1.2.2.1.2]
    rw [gRun_law h2 rfl rfl rfl rfl]
    rfl
def cRent (S : Sg) (mi : Mem) (t q : Nat) : Int32 := cRentP (mi q 0) (cSeesQ mi t q) (plainF (lwC S mi t 0) (cPrices (mi (t + 2)) (cSeesQ mi t q)) (jBits (cSeesQ mi t q)) (mi t 10) (sWide (mi t 10) (mi q 0) (mi q 2)))
theorem ok_rentOf {X : Xb} {S : Sg} {mi : Mem} {t q : Nat} (hT : TwA S t) (hq : Kd S q 0 0) (hx : TxOk S mi t 0) : Ok 3 0 0 fX5_rentOf X [rf X t, rf X q] S mi (fun r S' mi' => r = some (.int (cRent S mi t q)) ∧ S' = S ∧ Scr t mi mi') := by
  refine Ok.post (ok_X5_rentOf hT hq (fun p hp => ⟨_, (hx p hp).choose_spec.1⟩)) (fun r S' mi' h => ?_)
  obtain ⟨h1, h2, h3⟩ := h
  refine ⟨?_, h2, h3⟩
  rw [h1, cRentX, cPlain_law hx]
  rfl
