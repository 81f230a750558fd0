/-! the steps: sheets -/
theorem inv_H {S : Sg} {m M : Mem} {x : Nat} (hI : Inv S m x) (hH : IvH M x) (fr : ∀ a, (a < x + 59 ∨ x + 67 ≤ a) → a ≠ x + 101 → a ≠ x + 102 → a ≠ x + 103 → a ≠ x + 108 → M a = m a) : Inv S M x := by
  obtain ⟨i1, i2, i3, i4, i5, i6, i7, i8⟩ := hI
  have fb : ∀ a, (a < x + 59 ∨ x + 67 ≤ a) ∧ a ≠ x + 101 ∧ a ≠ x + 102 ∧ a ≠ x + 103 ∧ a ≠ x + 108 → M a = m a := fun a g => fr a g.1 g.2.1 g.2.2.1 g.2.2.2.1 g.2.2.2.2
  exact ⟨i1, i2.fr (fb _ (by omega)) (fun a h1 h2 => fb a (by omega)) (fun a h1 => fb a (by omega)), i3.fr (by rw [fb x (by omega)]) (by rw [fb (x + 87) (by omega)]) (fb _ (by omega)) (fun a h1 h2 => fb a (by omega)) (fun a h1 => fb a (by omega)), i4.fr (fb _ (by omega)) (fb _ (by omega)) (by rw [fb (x + 87) (by omega)]) (fb _ (by omega)) (fb _ (by omega)) (fb _ (by omega)), hH, i6.fr (fun a h1 h2 => fb a (by omega)) (fb _ (by omega)) (fb _ (by omega)) (fb _ (by omega)) (fb _ (by omega)), i7.fr (by rw [fb x (by omega)]) (by rw [fb (x + 87) (by omega)]) (fb _ (by omega)) (fb _ (by omega)), i8.fr (fb _ (by omega)) (fb _ (by omega))⟩
theorem inv_L {S : Sg} {m M : Mem} {x : Nat} (hI : Inv S m x) (hL : IvL M x) (fr : ∀ a, (a < x + 67 ∨ x + 87 ≤ a) → (a < x + 104 ∨ x + 108 ≤ a) → M a = m a) : Inv S M x := by
  obtain ⟨i1, i2, i3, i4, i5, i6, i7, i8⟩ := hI
  have fb : ∀ a, (a < x + 67 ∨ x + 87 ≤ a) ∧ (a < x + 104 ∨ x + 108 ≤ a) → M a = m a := fun a g => fr a g.1 g.2
  exact ⟨i1, i2.fr (fb _ (by omega)) (fun a h1 h2 => fb a (by omega)) (fun a h1 => fb a (by omega)), i3.fr (by rw [fb x (by omega)]) (by rw [fb (x + 87) (by omega)]) (fb _ (by omega)) (fun a h1 h2 => fb a (by omega)) (fun a h1 => fb a (by omega)), i4.fr (fb _ (by omega)) (fb _ (by omega)) (by rw [fb (x + 87) (by omega)]) (fb _ (by omega)) (fb _ (by omega)) (fb _ (by omega)), i5.fr (fun a h1 h2 => fb a (by omega)) (fb _ (by omega)) (fb _ (by omega)) (fb _ (by omega)), hL, i7.fr (by rw [fb x (by omega)]) (by rw [fb (x + 87) (by omega)]) (fb _ (by omega)) (fb _ (by omega)), i8.fr (fb _ (by omega)) (fb _ (by omega))⟩
/-- calls that change memory alone, exactly so -/
theorem stp_mem {d6 d7 : Nat} {f6 f7 : Fr} {X : Xb} {As : List Value} {S : Sg} {m M1 : Mem} {x : Nat} {a : Int32} {P2 : Pt3} (hI : Inv S m x) (h6 : Ok d6 0 0 f6 X (rf X x :: As) S m (fun r S1 m1 => r = some (.int a) ∧ S1 = S ∧ m1 = M1)) (h7 : Ok d7 0 0 f7 X (rf X (x + 87) :: As) S M1 P2) (h2 : ∀ r S2 m2, P2 r S2 m2 → r = some (.int a) ∧ S2 = S ∧ Inv S m2 x) : CStep d6 0 0 d7 f6 f7 X As S m x := by
  refine h6.post (fun r S1 m1 hp => ?_)
  obtain ⟨p1, rfl, rfl⟩ := hp
  refine ⟨a, p1, hI.1.1.1, hI.1.2.1.1, h7.post (fun r2 S2 m2 hp2 => ?_)⟩
  obtain ⟨r1, rfl, r3⟩ := h2 r2 S2 m2 hp2
  exact ⟨r1, r3, by omega⟩
theorem shE_fr {m : Mem} {q a : Nat} {s n : Int32} (h1 : a ≠ q) (h2 : a ≠ q + 1) : shE m q s n a = m a := by
  unfold shE
  rw [m_row_ne h2, m_up_ne h1, m_up_ne h1]
theorem shM_fr {m : Mem} {o i a : Nat} {s n : Int32} (h1 : a ≠ o + 14) (h2 : a ≠ o + 15) (h3 : a ≠ o + 16) : shM m o i s n a = m a := by
  unfold shM
  rw [m_row_ne h3, m_up_ne h2, m_up_ne h1]
/-- a sheet made anew on both sides -/
theorem ivH_sheet {m : Mem} {x i z : Nat} {s : Int32} (hH : IvH m x) (hi : i < 4) (hz : z ≤ 24) (hs : s = -1 ∨ s = 0 ∨ s = 1) : IvH (shM (shE m (x + 59 + 2 * i) s (nI z)) (x + 87) i s (nI z)) x := by
  intro j hj
  have e14 : shM (shE m (x + 59 + 2 * i) s (nI z)) (x + 87) i s (nI z) (x + 101) = upd (m (x + 101)) i s := by
    unfold shM
    rw [m_row_ne (by omega), m_up_ne (by omega), show x + 101 = x + 87 + 14 from rfl, m_up_row, shE_fr (by omega) (by omega)]
  have e15 : shM (shE m (x + 59 + 2 * i) s (nI z)) (x + 87) i s (nI z) (x + 102) = upd (m (x + 102)) i (nI z) := by
    unfold shM
    rw [m_row_ne (by omega), show x + 102 = x + 87 + 15 from rfl, m_up_row, m_up_ne (by omega), shE_fr (by omega) (by omega)]
  have e16 : shM (shE m (x + 59 + 2 * i) s (nI z)) (x + 87) i s (nI z) (x + 103) = zC (m (x + 103)) i 24 := by
    unfold shM
    rw [show x + 103 = x + 87 + 16 from rfl, m_row_self, shE_fr (by omega) (by omega)]
  have el : ∀ a, a < x + 87 → shM (shE m (x + 59 + 2 * i) s (nI z)) (x + 87) i s (nI z) a = shE m (x + 59 + 2 * i) s (nI z) a := fun a ha => shM_fr (by omega) (by omega) (by omega)
  rw [e14, e15, e16, el _ (by omega), el _ (by omega)]
  by_cases e : j = i
  · subst e
    have r1 : shE m (x + 59 + 2 * j) s (nI z) (x + 59 + 2 * j) 1 = s := by
      unfold shE
      rw [m_row_ne (by omega), m_up_of (by decide), m_up_at]
    have r2 : shE m (x + 59 + 2 * j) s (nI z) (x + 59 + 2 * j) 2 = nI z := by
      unfold shE
      rw [m_row_ne (by omega), m_up_at]
    have r3 : ∀ k, k < 24 → shE m (x + 59 + 2 * j) s (nI z) (x + 59 + 2 * j + 1) k = 0 := fun k hk => by
      unfold shE
      rw [m_row_self]
      unfold zTo
      rw [if_pos hk]
    rw [r1, r2, upd_at, upd_at]
    refine ⟨rfl, ⟨z, hz, rfl, rfl⟩, ?_⟩
    rcases hs with g | g
    · exact Or.inl g
    · refine Or.inr ⟨g, fun k hk => ?_⟩
      rw [r3 k hk]
      unfold zC
      rw [if_pos (by omega)]
  · rw [shE_fr (by omega) (by omega), shE_fr (by omega) (by omega), upd_ne e, upd_ne e]
    have h := hH j hj
    refine ⟨h.1, h.2.1, h.2.2.elim Or.inl (fun g => Or.inr ⟨g.1, fun k hk => ?_⟩)⟩
    unfold zC
    rw [if_neg (by omega)]
    exact g.2 k hk
theorem st_sheet {X : Xb} {S : Sg} {m : Mem} {x : Nat} (hI : Inv S m x) (v s n : Int32) : CStep 2 0 0 2 fX6_sheet fX7_sheet X [.int v, .int s, .int n] S m x := by
  refine stp_mem (a := (cSheet m x v s n).1) (M1 := (cSheet m x v s n).2) hI (ok_X6_sheet hI.1.1) (ok_X7_sheet hI.1.2.1) (fun r S2 m2 hp => ?_)
  obtain ⟨p1, p2, p3⟩ := hp
  have key : (mSheet (cSheet m x v s n).2 (x + 87) v s n).1 = (cSheet m x v s n).1 ∧ Inv S (mSheet (cSheet m x v s n).2 (x + 87) v s n).2 x := by
    unfold cSheet mSheet
    by_cases c : (0 ≤ v ∧ v ≤ 3) ∧ (-1 ≤ s ∧ s ≤ 1)
    · rw [if_pos c, if_pos c]
      obtain ⟨i, hi, rfl⟩ := lit_in (m := 3) (by decide) c.1
      rw [nI_clamp (by omega)]
      have hs : s = -1 ∨ s = 0 ∨ s = 1 := by
        have h1 := Int32.le_iff_toInt_le.mp c.2.1
        have h2 := Int32.le_iff_toInt_le.mp c.2.2
        rw [show (-1 : Int32).toInt = -1 by decide] at h1
        rw [show (1 : Int32).toInt = 1 by decide] at h2
        rw [← Int32.toInt_inj, ← Int32.toInt_inj, ← Int32.toInt_inj, show (-1 : Int32).toInt = -1 by decide, show (1 : Int32).toInt = 1 by decide, show (0 : Int32).toInt = 0 by decide]
        omega
      have go : ∀ z, z ≤ 24 → Inv S (shM (shE m (x + 59 + 2 * i) s (nI z)) (x + 87) i s (nI z)) x := fun z hz => inv_H hI (ivH_sheet hI.2.2.2.2.1 (by omega) hz hs) (fun a h1 h2 h3 h4 h5 => by rw [shM_fr (by omega) (by omega) (by omega), shE_fr (by omega) (by omega)])
      by_cases d : s = -1
      · rw [if_pos d, if_pos (by rw [d]; decide)]
        have g := go 0 (by omega)
        rw [d] at g ⊢
        exact ⟨rfl, g⟩
      · have d2 : ¬ s < 0 := by rcases hs with g | g | g; exact absurd g d; rw [g]; decide; rw [g]; decide
        rw [if_neg d, if_neg d2]
        by_cases e : 24 < n
        · rw [if_pos e, if_pos e]; exact ⟨rfl, hI⟩
        · rw [if_neg e, if_neg e]
          by_cases f : n < 0
          · rw [if_pos f, if_pos f]; exact ⟨rfl, hI⟩
          · rw [if_neg f, if_neg f]
            obtain ⟨z, z1, rfl⟩ := nI_of f
            have z2 : ¬ 24 < z := fun g => e ((nI_ltI (a := 24) (by decide) z1).mpr g)
            exact ⟨rfl, go z (by omega)⟩
    · rw [if_neg c, if_neg c]; exact ⟨rfl, hI⟩
  exact ⟨by rw [p1, key.1], p2, by rw [p3]; exact key.2⟩
theorem mark_inv {m : Mem} {x i p : Nat} {w : Int32} (hH : IvH m x) (hi : i < 4) (hp : p < 24) : IvH (m_up (m_up m (x + 59 + 2 * i + 1) p w) (x + 103) (24 * i + p) w) x := by
  intro j hj
  rw [m_up_ne (show x + 59 + 2 * j ≠ x + 103 by omega), m_up_ne (show x + 59 + 2 * j ≠ x + 59 + 2 * i + 1 by omega), m_up_ne (show x + 101 ≠ x + 103 by omega), m_up_ne (show x + 101 ≠ x + 59 + 2 * i + 1 by omega), m_up_ne (show x + 102 ≠ x + 103 by omega), m_up_ne (show x + 102 ≠ x + 59 + 2 * i + 1 by omega), m_up_ne (show x + 59 + 2 * j + 1 ≠ x + 103 by omega), m_up_row, m_up_ne (show x + 103 ≠ x + 59 + 2 * i + 1 by omega)]
  have h := hH j hj
  refine ⟨h.1, h.2.1, h.2.2.elim Or.inl (fun g => Or.inr ⟨g.1, fun k hk => ?_⟩)⟩
  have gk := g.2 k hk
  by_cases c : j = i
  · subst c
    rw [m_up_row]
    by_cases d : k = p
    · rw [d, upd_at, upd_at]
    · rw [upd_ne d, upd_ne (by omega)]
      exact gk
  · rw [m_up_ne (by omega), upd_ne (by omega)]
    exact gk
theorem pl_in {p : Int32} {z : Nat} (hz : z ≤ 24) (d : 0 ≤ p ∧ p ≤ nI z - 1) : ∃ k, k < z ∧ p = nI k := by
  obtain ⟨j, hj, rfl⟩ := nI_of (x := p) (Int32.not_lt.mpr d.1)
  cases z with
  | zero =>
    have h2 := Int32.le_iff_toInt_le.mp d.2
    rw [nI_toInt hj, show (nI 0 - 1).toInt = -1 by decide] at h2
    omega
  | succ z =>
    have h2 := d.2
    rw [nI_pred] at h2
    have := (nI_leI hj (by omega)).mp h2
    exact ⟨j, by omega, rfl⟩
theorem mark_fr {m : Mem} {x : Nat} {v p w : Int32} : ∀ a, x + 67 ≤ a → (cMark m x v p w).2 a = m a := by
  intro a ha
  unfold cMark
  by_cases c : 0 ≤ v ∧ v ≤ 3
  · rw [if_pos c]
    obtain ⟨i, hi, rfl⟩ := lit_in (m := 3) (by decide) c
    rw [nI_clamp (by omega)]
    repeat' split
    all_goals first | rfl | exact m_up_ne (by omega)
  · rw [if_neg c]
theorem mark_same {S : Sg} {m : Mem} {x : Nat} (hI : Inv S m x) (v p w : Int32) : (mMark (cMark m x v p w).2 (x + 87) v p w).1 = (cMark m x v p w).1 ∧ Inv S (mMark (cMark m x v p w).2 (x + 87) v p w).2 x := by
  have hH := hI.2.2.2.2.1
  have fm := mark_fr (m := m) (x := x) (v := v) (p := p) (w := w)
  obtain ⟨M, hM⟩ : ∃ M, M = cMark m x v p w := ⟨_, rfl⟩
  rw [← hM] at fm ⊢
  unfold mMark
  rw [fm (x + 87 + 14) (by omega), fm (x + 87 + 15) (by omega)]
  unfold cMark at hM
  by_cases c : 0 ≤ v ∧ v ≤ 3
  · rw [if_pos c] at hM ⊢
    obtain ⟨i, hi, rfl⟩ := lit_in (m := 3) (by decide) c
    rw [nI_clamp (by omega)] at hM ⊢
    obtain ⟨f1, f2⟩ := ivH_at hH (i := i) (by omega)
    obtain ⟨e0, ⟨z, z1, z2, z3⟩, _⟩ := hH i (by omega)
    have es : m (x + 87 + 14) i = m (x + 59 + 2 * i) 1 := e0.symm
    by_cases s : m (x + 87 + 14) i < 0
    · rw [if_pos (f1.mp s)] at hM
      rw [if_pos s, hM]; exact ⟨rfl, hI⟩
    · rw [if_neg (fun t => s (f1.mpr t)), z2] at hM
      rw [if_neg s, es, show m (x + 87 + 15) i = nI z from z3]
      by_cases d : 0 ≤ p ∧ p ≤ nI z - 1
      · rw [if_neg (show ¬ ¬ (0 ≤ p ∧ p ≤ nI z - 1) from fun t => t d)] at hM ⊢
        by_cases g1 : m (x + 59 + 2 * i) 1 = 0 ∧ w = NONEi
        · rw [if_pos g1] at hM ⊢
          rw [hM]; exact ⟨rfl, hI⟩
        · rw [if_neg g1] at hM ⊢
          by_cases g2 : m (x + 59 + 2 * i) 1 = 1 ∧ w ≠ NONEi ∧ ¬ (-99999 ≤ w ∧ w ≤ 99999)
          · rw [if_pos g2] at hM ⊢
            rw [hM]; exact ⟨rfl, hI⟩
          · rw [if_neg g2] at hM ⊢
            rw [hM]
            refine ⟨rfl, ?_⟩
            obtain ⟨k, k1, rfl⟩ := pl_in z1 d
            rw [nI_clamp (by omega)]
            exact inv_H hI (mark_inv hH (by omega) (by omega)) (fun a h1 h2 h3 h4 h5 => by dsimp only; rw [m_up_ne (by omega), m_up_ne (by omega)])
      · rw [if_pos d] at hM ⊢
        rw [hM]; exact ⟨rfl, hI⟩
  · rw [if_neg c] at hM ⊢
    rw [hM]; exact ⟨rfl, hI⟩
theorem st_mark {X : Xb} {S : Sg} {m : Mem} {x : Nat} (hI : Inv S m x) (v p w : Int32) : CStep 2 0 0 2 fX6_mark fX7_mark X [.int v, .int p, .int w] S m x := by
  have hH := hI.2.2.2.2.1
  refine stp_mem (a := (cMark m x v p w).1) (M1 := (cMark m x v p w).2) hI (ok_X6_mark hI.1.1 (ivH_Z hH)) (ok_X7_mark hI.1.2.1 (fun i hi => by rw [mark_fr (x + 87 + 15) (by omega)]; exact ivH_M hH i hi)) (fun r S2 m2 hp => ?_)
  obtain ⟨p1, p2, p3⟩ := hp
  have key := mark_same hI v p w
  exact ⟨by rw [p1, key.1], p2, by rw [p3]; exact key.2⟩
