/-! the model's laws as functions of their names -/
theorem wRun_wf {s : Nat → Int32} {n : Nat} (h : WfM s n) (nm nm' p p' : Nat → Int32) (hnm : ∀ j, j < 4 → nm j = nm' j) : ∀ k, k ≤ n → (∀ j, j < wDep s k → (wRun nm s p k).2 j = (wRun nm' s p' k).2 j) ∧ (0 < k → 0 < wDep s k)
  | 0, _ => ⟨fun j hj => absurd hj (Nat.not_lt_zero j), fun q => absurd q (Nat.lt_irrefl 0)⟩
  | k + 1, hk => by
    obtain ⟨i3, i4⟩ := wRun_wf h nm nm' p p' hnm k (by omega)
    have hw := h.2.2 k (by omega)
    have i1 := wRun_dep nm s p k
    have i2 := wRun_dep nm' s p' k
    by_cases c1 : s k < 0
    · by_cases c2 : s k = -10
      · have g1 := (hw.1 c1).1 c2
        simp only [wRun, wStep, wDep, c2, show (-10 : Int32) < 0 from by decide, if_true, i1, i2]
        refine ⟨fun j hj => ?_, fun _ => by omega⟩
        simp only [upd, i3 (wDep s k - 1) (by omega)]
        by_cases hj2 : j = wDep s k - 1
        · simp [hj2]
        · simp [hj2, i3 j hj]
      · have g1 := (hw.1 c1).2 c2
        simp only [wRun, wStep, wDep, c1, c2, if_true, if_false, i1, i2]
        refine ⟨fun j hj => ?_, fun _ => by omega⟩
        simp only [upd, i3 (wDep s k - 1) (by omega), i3 (wDep s k - 2) (by omega)]
        by_cases hj2 : j = wDep s k - 2
        · simp [hj2]
        · simp [hj2, i3 j (by omega)]
    · simp only [wRun, wStep, wDep, c1, if_false, i1, i2]
      refine ⟨fun j hj => ?_, fun _ => by omega⟩
      simp only [upd]
      by_cases hj2 : j = wDep s k
      · by_cases c3 : 10000 ≤ s k
        · have : (s k - 10000).toNatClampNeg < 4 := Nat.not_le.mp fun q => hw.2 c3 (Or.inr q)
          simp [hj2, c3, hnm _ this]
        · simp [hj2, c3]
      · simp [hj2, i3 j (by omega)]
def lawM (s : Nat → Int32) (n : Nat) (a b c d : Int32) : Int32 := (wRun (c4 a b c d) s (fun _ => 0) n).2 0
theorem wRun_law {s : Nat → Int32} {n : Nat} (h : WfM s n) {nm p : Nat → Int32} {a b c d : Int32} (h0 : nm 0 = a) (h1 : nm 1 = b) (h2 : nm 2 = c) (h3 : nm 3 = d) : (wRun nm s p n).2 0 = lawM s n a b c d := by
  obtain ⟨i3, i4⟩ := wRun_wf h nm (c4 a b c d) p (fun _ => 0) (fun j hj => by
    have : j = 0 ∨ j = 1 ∨ j = 2 ∨ j = 3 := by omega
    rcases this with rfl | rfl | rfl | rfl <;> simp [c4, *]) n (Nat.le_refl n)
  exact i3 0 (i4 h.1)
def mLen (A : Nat → Int32) (t : Nat) : Nat := (jr (A (66 + 2 * t)) 1000).toNatClampNeg
/-- the texts of a row are texts -/
def MtOk (A : Nat → Int32) (n : Nat) : Prop := ∀ t, t < n → jr (A (66 + 2 * t)) 1000 = nI (mLen A t) ∧ WfM (fun k => A (94 + 96 * t + k)) (mLen A t)
def lwM (A : Nat → Int32) (key : Int32) (n : Nat) : LawT := (lastK A key n).map (fun t => lawM (fun k => A (94 + 96 * t + k)) (mLen A t))
def mPlainF (lw : LawT) (prices bits hour wide : Int32) : Int32 := match lw with
  | none => prices
  | some f => clampI (f prices bits hour wide) 0 9999
def mRentP (kind seen plain : Int32) : Int32 := if kind = 1 then (if 0 < plain then plain - 1 else 0) else if kind = 2 then plain + 3 else if kind = 3 then (if 0 < plain then plain - 1 else 0) / 2 else if kind = 4 then plain + 3 + popI seen else plain
def mRent (lw : LawT) (A : Nat → Int32) (a : Nat) : Int32 := mRentP (A (26 + 5 * a)) (rSees A a) (mPlainF lw (mPrices (fun k => A (18 + k)) (rSees A a)) (popI (rSees A a)) (A 2) (mWide (A 2) (A (26 + 5 * a)) (A (26 + 5 * a + 2))))
/-- only the model's scratch rows may differ -/
def ScrM (o : Nat) (mi m : Mem) : Prop := ∀ a, a ≠ o + 12 → a ≠ o + 13 → m a = mi a
theorem ScrM.rf (o : Nat) (mi : Mem) : ScrM o mi mi := fun _ _ _ => rfl
theorem ScrM.tr {o : Nat} {a b c : Mem} (h : ScrM o a b) (k : ScrM o b c) : ScrM o a c := fun x h1 h2 => (k x h1 h2).trans (h x h1 h2)
theorem ScrM.up {o k : Nat} {a b : Mem} {v : Int32} (h : ScrM o a b) : ScrM o a (m_up b (o + 13) k v) := fun x h1 h2 => by rw [m_up_ne h2]; exact h x h1 h2
theorem ScrM.row {o : Nat} {a b : Mem} {f : Nat → Int32} (h : ScrM o a b) : ScrM o a (m_row b (o + 12) f) := fun x h1 h2 => by rw [m_row_ne h1]; exact h x h1 h2
