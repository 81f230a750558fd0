/-! calls, both sides: the best of some, the check, the likeness -/
theorem best_most {f : Nat → Option Int32} {q : Nat → Int32} : ∀ N, (∀ v, v < N + 1 → f v = some (q v) ∧ ∃ tk, tk < 2 ^ 31 ∧ q v = nI tk) → bestC f (N + 1) = mostC q (N + 1)
  | 0, h => by
    obtain ⟨e, tk, t1, t2⟩ := h 0 (by omega)
    have l1 : (NONEi : Int32) < nI tk := Int32.lt_of_lt_of_le (by decide : (NONEi : Int32) < 0) (nI_pos' t1)
    have l2 : (-1 : Int32) < nI tk := Int32.lt_of_lt_of_le (by decide : (-1 : Int32) < 0) (nI_pos' t1)
    have a1 : bestC f 1 = (if (bestC f 0).2 < q 0 then (nI 0, q 0) else bestC f 0) := by
      show (match f 0 with
        | none => bestC f 0
        | some tk => if (bestC f 0).2 < tk then (nI 0, tk) else bestC f 0) = _
      rw [e]
    have a2 : mostC q 1 = (if (mostC q 0).2 < q 0 then (nI 0, q 0) else mostC q 0) := rfl
    rw [show 0 + 1 = 1 from rfl, a1, a2, if_pos (show (bestC f 0).2 < q 0 by rw [t2]; exact l1), if_pos (show (mostC q 0).2 < q 0 by rw [t2]; exact l2)]
  | N + 1, h => by
    have ih := best_most N (fun v hv => h v (by omega))
    obtain ⟨e, _⟩ := h (N + 1) (by omega)
    rw [bestC, mostC, e, ih]
theorem best_st {f : Nat → Option Int32} : ∀ N, N < 2 ^ 31 → (∀ v, v < N → ∀ x, f v = some x → ∃ tk, tk < 2 ^ 31 ∧ x = nI tk) → ((bestC f N = (NONEi, NONEi) ∧ stC f N = (NONEi, -1)) ∨ (bestC f N = stC f N ∧ ¬ (stC f N).1 = NONEi))
  | 0, _, _ => Or.inl ⟨rfl, rfl⟩
  | N + 1, hN, h => by
    have ih := best_st N (by omega) (fun v hv => h v (by omega))
    have hv := h N (by omega)
    have nn : ¬ nI N = NONEi := fun g => nI_pos (n := N) (by omega) (g ▸ (by decide : (NONEi : Int32) < 0))
    simp only [bestC, stC]
    cases e : f N with
    | none => exact ih
    | some x =>
      obtain ⟨tk, t1, rfl⟩ := hv x e
      have l1 : (NONEi : Int32) < nI tk := Int32.lt_of_lt_of_le (by decide : (NONEi : Int32) < 0) (nI_pos' t1)
      have l2 : (-1 : Int32) < nI tk := Int32.lt_of_lt_of_le (by decide : (-1 : Int32) < 0) (nI_pos' t1)
      dsimp only
      rcases ih with ⟨i1, i2⟩ | ⟨i1, i2⟩
      · rw [i1, i2]
        dsimp only
        rw [if_pos l1, if_pos l2]
        exact Or.inr ⟨rfl, nn⟩
      · rw [i1]
        by_cases c : (stC f N).2 < nI tk
        · rw [if_pos c]
          exact Or.inr ⟨rfl, nn⟩
        · rw [if_neg c]
          exact Or.inr ⟨rfl, i2⟩
theorem Rg.kind {n h a v : Nat} {A : Nat → Int32} (g : Rg n h A) (hv : v ≤ 5) : Rg n h (upd A (26 + 5 * a) (nI v)) :=
  RgT.up g (by omega) (by omega) (fun _ => ⟨v, by have := lo_A a 0 (by decide); rw [Nat.add_zero] at this; rw [this]; exact Nat.zero_le _, by have := hi_A a 0 (by decide); rw [Nat.add_zero] at this; rw [this]; exact hv, rfl⟩)
theorem Rg.face {n h a v : Nat} {A : Nat → Int32} (g : Rg n h A) (hv : v ≤ 23) : Rg n h (upd A (26 + 5 * a + 1) (nI v)) :=
  RgT.up g (by omega) (by omega) (fun _ => ⟨v, by rw [lo_A a 1 (by decide)]; exact Nat.zero_le _, by rw [hi_A a 1 (by decide)]; exact hv, rfl⟩)
theorem turned_eq {n h : Nat} {A : Nat → Int32} {lw : LawT} (g : Rg n h A) (hh : h ≤ 9999) (v q w : Int32) : mTurned lw A n v q w = sTurned lw A n v q w := by
  unfold mTurned sTurned
  by_cases c : (0 ≤ v ∧ v ≤ nI n - 1) ∧ (1 ≤ q ∧ q ≤ 60) ∧ (0 ≤ w ∧ w ≤ 1)
  · rw [if_pos c, if_pos c]
    obtain ⟨k, k1, k2, rfl⟩ := lit_in1 (m := 60) (by decide) c.2.1
    rw [nI_clamp (n := k) (by omega)]
    generalize v.toNatClampNeg = a
    have e := best_most (f := chT lw A n 0 a k) (q := mostF lw A n (26 + 5 * a + 1) k) 23 (fun i hi => by
      have r := hours_eq (lw := lw) (g.face (a := a) (v := i) (by omega)) k (by omega)
      have t := rg_taken r.2 (by omega)
      have e1 : chT lw A n 0 a k i = some (mostF lw A n (26 + 5 * a + 1) k i) := by
        unfold chT mostF
        rw [if_pos (show chB 0 (nI i) A = true from rfl), r.1]
        rfl
      refine ⟨e1, ?_⟩
      unfold mostF
      rw [r.1]
      exact t)
    have e' : bestC (chT lw A n 0 a k) (chN 0) = mostC (mostF lw A n (26 + 5 * a + 1) k) 24 := e
    unfold mMost sBest
    rw [e']
  · rw [if_neg c, if_neg c]
theorem becomes_eq {n h : Nat} {A : Nat → Int32} {lw : LawT} (g : Rg n h A) (hh : h ≤ 9999) (v q w : Int32) : mBecomes lw A n v q w = sBecomes lw A n v q w := by
  unfold mBecomes sBecomes
  by_cases c : (0 ≤ v ∧ v ≤ nI n - 1) ∧ (1 ≤ q ∧ q ≤ 60) ∧ (0 ≤ w ∧ w ≤ 1)
  · rw [if_pos c, if_pos c]
    obtain ⟨k, k1, k2, rfl⟩ := lit_in1 (m := 60) (by decide) c.2.1
    rw [nI_clamp (n := k) (by omega)]
    generalize v.toNatClampNeg = a
    have e := best_most (f := chT lw A n 2 a k) (q := mostF lw A n (26 + 5 * a) k) 5 (fun i hi => by
      have r := hours_eq (lw := lw) (g.kind (a := a) (v := i) (by omega)) k (by omega)
      have t := rg_taken r.2 (by omega)
      have e1 : chT lw A n 2 a k i = some (mostF lw A n (26 + 5 * a) k i) := by
        unfold chT mostF
        rw [if_pos (show chB 2 (nI i) A = true from rfl), r.1]
        rfl
      refine ⟨e1, ?_⟩
      unfold mostF
      rw [r.1]
      exact t)
    have e' : bestC (chT lw A n 2 a k) (chN 2) = mostC (mostF lw A n (26 + 5 * a) k) 6 := e
    unfold mMost sBest
    rw [e']
  · rw [if_neg c, if_neg c]
theorem stands_eq {n h : Nat} {A : Nat → Int32} {lw : LawT} (g : Rg n h A) (hh : h ≤ 9999) (q w : Int32) : mStands lw A n q w = sStands lw A n q w := by
  unfold mStands sStands
  by_cases c : (1 ≤ q ∧ q ≤ 60) ∧ (0 ≤ w ∧ w ≤ 1)
  · rw [if_pos c, if_pos c]
    obtain ⟨k, k1, k2, rfl⟩ := lit_in1 (m := 60) (by decide) c.1
    rw [nI_clamp (n := k) (by omega)]
    have gv : ∀ i, Rg n h (upd A 9 (stV (A 9) i)) := fun i => RgT.up9 g (by omega)
    have ef : chT lw A n 1 0 k = stF lw A n k := by
      funext i
      unfold chT stF
      have e1 : chB 1 (nI i) A = decide (A 9 >>> (nI i &&& 31) &&& 1 = 0) := rfl
      have e2 : chF 1 0 (nI i) A = upd A 9 (stV (A 9) i) := rfl
      rw [e1, e2, (hours_eq (lw := lw) (gv i) k (by omega)).1]
      by_cases d : A 9 >>> (nI i &&& 31) &&& 1 = 0
      · rw [if_pos d, if_pos (decide_eq_true d)]
      · rw [if_neg d, if_neg (by rw [decide_eq_false d]; decide)]
    have b := best_st (f := stF lw A n k) 24 (by decide) (fun i _ x hx => by
      unfold stF at hx
      by_cases d : A 9 >>> (nI i &&& 31) &&& 1 = 0
      · rw [if_pos d] at hx
        have r := hours_eq (lw := lw) (gv i) k (by omega)
        rw [← Option.some.inj hx, r.1]
        exact rg_taken r.2 (by omega)
      · rw [if_neg d] at hx
        cases hx)
    unfold sBest
    rw [ef, show chN 1 = 24 from rfl]
    rcases b with ⟨b1, b2⟩ | ⟨b1, b2⟩
    · rw [b1, b2]
      rw [if_pos rfl]
      split <;> rfl
    · rw [if_neg b2, b1]
  · rw [if_neg c, if_neg c]
theorem chk_congr {w p q : Nat → Int32} {heard due : Nat} : ∀ f k, (∀ i, k ≤ i → i < k + f → p i = q i) → chkF w p heard due f k = chkF w q heard due f k
  | 0, _, _ => rfl
  | f + 1, k, h => by
    simp only [chkF]
    rw [h k (Nat.le_refl k) (by omega), chk_congr f (k + 1) (fun i h1 h2 => h i (by omega) (by omega))]
theorem check_eq {n h : Nat} {B : Nat → Int32} {lw : LawT} (g : Rg n h B) (hh : h ≤ 9999) (kept : Int32) (w : Nat → Int32) (wt : Nat) (v : Int32) : mCheck lw B n h kept w wt v = cCheck lw B n h kept w wt v := by
  unfold mCheck cCheck
  by_cases c : 1 ≤ v ∧ v ≤ 30
  · rw [if_pos c, if_pos c]
    by_cases d : kept = 0
    · rw [if_pos d, if_pos d]
    · rw [if_neg d, if_neg d]
      refine chk_congr _ _ (fun i _ h2 => ?_)
      unfold mtlF tlF
      rw [(hours_eq (lw := lw) g (i / 2 + 1) (by omega)).1]
  · rw [if_neg c, if_neg c]
theorem am_congr {D E : Nat → Int32} : ∀ n, (∀ i, i < n → D i = E i) → 0 < n → amD D n = amD E n ∧ amD D n < n
  | 0, _, h => absurd h (Nat.lt_irrefl 0)
  | 1, h, _ => by
    have e : ∀ D : Nat → Int32, amD D 1 = 0 := fun D => by
      show (if D 0 < D 0 then 0 else 0) = 0
      exact ite_self _
    rw [e, e]
    exact ⟨rfl, by decide⟩
  | n + 2, h, _ => by
    obtain ⟨i1, i2⟩ := am_congr (n + 1) (fun i hi => h i (by omega)) (Nat.succ_pos n)
    have e : ∀ (D : Nat → Int32) (m : Nat), amD D (m + 1) = if D m < D (amD D m) then m else amD D m := fun _ _ => rfl
    rw [e D (n + 1), e E (n + 1), ← i1, h (n + 1) (by omega), h (amD D (n + 1)) (by omega)]
    refine ⟨rfl, ?_⟩
    split <;> omega
theorem lkV_congr {D E : Nat → Int32} {n : Nat} (h : ∀ i, i < n → D i = E i) (w : Int32) : lkV D n w = lkV E n w := by
  unfold lkV
  by_cases c : n = 0
  · rw [if_pos c, if_pos c]
  · rw [if_neg c, if_neg c]
    obtain ⟨i1, i2⟩ := am_congr n h (by omega)
    rw [← i1, h _ i2]
theorem like_eq {n h : Nat} {A : Nat → Int32} {lw : LawT} (g : Rg n h A) (hh : h ≤ 9999) (c : Nat → Int32) {z : Nat} (hz : z ≤ 24) (w : Int32) : lkV (fun i => lkM (mlkR lw n A) c i z) n w = lkV (fun i => lkD (lkR lw n A) c i z) n w := by
  refine lkV_congr (fun i hi => ?_) w
  refine (lk_eq z (fun k hk => ?_)).symm
  obtain ⟨e, r⟩ := hours_eq (lw := lw) g k (by omega)
  unfold lkR mlkR
  rw [e, rent_eq r (by omega) hi]
