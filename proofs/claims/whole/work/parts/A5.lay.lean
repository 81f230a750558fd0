/-! the steps: a slot laid; words told; the tape -/
theorem cpy_at {m : Mem} {a b n k : Nat} (hk : k < n) : m_cpy m a b 0 0 n b k = m a k := by
  show (if b = b ∧ 0 ≤ k ∧ k < 0 + n then m a (0 + (k - 0)) else m b k) = m a k
  rw [if_pos ⟨rfl, Nat.zero_le _, by omega⟩, show 0 + (k - 0) = k by omega]
theorem lay_inv {m M : Mem} {x i : Nat} {w A' B' : Int32} (hL : IvL m x) (hi : i < 5) (fc : ∀ j, j ≠ i → j < 5 → ∀ b, b < 4 → M (x + 67 + 4 * j + b) = m (x + 67 + 4 * j + b)) (f17 : M (x + 104) = upd (m (x + 104)) i w) (f18 : M (x + 105) = upd (m (x + 105)) i A') (f19 : M (x + 106) = upd (m (x + 106)) i B') (f20 : ∀ j, j ≠ i → ∀ k, k < 24 → M (x + 107) (24 * j + k) = m (x + 107) (24 * j + k)) (o1 : M (x + 67 + 4 * i) 0 = w) (o2 : ∃ z, z ≤ 24 ∧ M (x + 67 + 4 * i + 2) 2 = nI z) (o3 : w = 1 → (∃ c, c ≤ 5 ∧ M (x + 67 + 4 * i + 1) 0 = nI c ∧ A' = nI c) ∧ ∃ u, u ≤ 12 ∧ M (x + 67 + 4 * i + 1) 2 = nI u ∧ B' = nI u) (o4 : w = 2 → M (x + 67 + 4 * i + 2) 2 = A' ∧ ∀ k, k < 24 → M (x + 67 + 4 * i + 2 + 1) k = M (x + 107) (24 * i + k)) (o5 : w = 3 → M (x + 67 + 4 * i) 3 = A') : IvL M x := by
  intro j hj
  rw [f17, f18, f19]
  by_cases e : j = i
  · subst e
    rw [upd_at, upd_at, upd_at]
    exact ⟨o1, o2, o3, o4, o5⟩
  · have c0 := fc j e hj 0 (by decide)
    have c1 := fc j e hj 1 (by decide)
    have c2 := fc j e hj 2 (by decide)
    have c3 := fc j e hj 3 (by decide)
    rw [Nat.add_zero] at c0
    rw [upd_ne e, upd_ne e, upd_ne e, c0, c1, c2, show x + 67 + 4 * j + 2 + 1 = x + 67 + 4 * j + 3 from rfl, c3]
    obtain ⟨l1, l2, l3, l4, l5⟩ := hL j hj
    exact ⟨l1, l2, l3, fun g => ⟨(l4 g).1, fun k hk => by rw [f20 j e k hk]; exact (l4 g).2 k hk⟩, l5⟩
theorem lay_fr {m : Mem} {x n : Nat} {v w k : Int32} (hv : 0 ≤ v ∧ v ≤ 4) : ∀ a, (a < x + 67 + 4 * v.toNatClampNeg ∨ x + 67 + 4 * v.toNatClampNeg + 4 ≤ a) → (cLay m x n v w k).2 a = m a := by
  intro a ha
  unfold cLay
  generalize v.toNatClampNeg = i at ha
  repeat' split
  · rfl
  · dsimp only
    rw [m_up_ne (by omega), m_up_ne (by omega), m_up_ne (by omega), m_up_ne (by omega), m_up_ne (by omega), m_up_ne (by omega)]
  · dsimp only
    rw [cpy_ne (by omega), m_up_ne (by omega), m_up_ne (by omega), m_up_ne (by omega)]
  · dsimp only
    rw [m_up_ne (by omega), m_up_ne (by omega)]
  · dsimp only
    rw [m_up_ne (by omega)]
  · rfl
theorem st_lay {X : Xb} {S : Sg} {m : Mem} {x : Nat} (hI : Inv S m x) (v w y : Int32) : CStep 2 0 0 2 fX6_lay fX7_lay X [.int v, .int w, .int y] S m x := by
  have hH := hI.2.2.2.2.1
  have hL := hI.2.2.2.2.2.1
  obtain ⟨n, h, c, q⟩ := hI.2.1
  have n8 := q.2.2.1.1
  have fm : ∀ a, x + 87 ≤ a → (cLay m x n v w y).2 a = m a := by
    intro a ha
    by_cases d : 0 ≤ v ∧ v ≤ 4
    · obtain ⟨i, hi, rfl⟩ := lit_in (m := 4) (by decide) d
      exact lay_fr d a (by rw [nI_clamp (by omega)]; omega)
    · unfold cLay
      rw [if_neg (fun g => d g.1)]
  refine stp_mem (a := (cLay m x n v w y).1) (M1 := (cLay m x n v w y).2) hI (ok_X6_lay hI.1.1 (tw3 q (j := 1) (by decide) |>.trans q.2.1) n8) (ok_X7_lay hI.1.2.1 (by rw [fm (x + 87 + 1) (by omega)]; exact q.2.1) n8) (fun r S2 m2 hp => ?_)
  obtain ⟨p1, p2, p3⟩ := hp
  suffices key : (mLay (cLay m x n v w y).2 (x + 87) n v w y).1 = (cLay m x n v w y).1 ∧ Inv S (mLay (cLay m x n v w y).2 (x + 87) n v w y).2 x from ⟨by rw [p1, key.1], p2, by rw [p3]; exact key.2⟩
  clear p1 p2 p3
  have ff := @lay_fr m x n v w y
  obtain ⟨M, hM⟩ : ∃ M, M = cLay m x n v w y := ⟨_, rfl⟩
  rw [← hM] at fm ff ⊢
  unfold cLay at hM
  by_cases d : (0 ≤ v ∧ v ≤ 4) ∧ (0 ≤ w ∧ w ≤ 3) ∧ (w = 1 → 0 ≤ y ∧ y ≤ nI n - 1) ∧ (w = 2 → 0 ≤ y ∧ y ≤ 3)
  · have ff := ff d.1
    unfold mLay layA layB
    rw [if_pos d] at hM ⊢
    rw [fm (x + 87 + 14) (by omega), fm (x + 87 + 17) (by omega), fm (x + 87 + 1) (by omega), fm (x + 87 + 15) (by omega), fm (x + 87 + 16) (by omega), fm (x + 87 + 20) (by omega)]
    obtain ⟨i, hi, rfl⟩ := lit_in (m := 4) (by decide) d.1
    rw [nI_clamp (n := i) (by omega)] at hM ff ⊢
    obtain ⟨l1, l2, l3, l4, l5⟩ := hL i (by omega)
    have eM : ∀ (A' B' : Int32) (row : Nat → Int32) a, a ≠ x + 104 → a ≠ x + 105 → a ≠ x + 106 → a ≠ x + 107 → m_row (m_up (m_up (m_up M.2 (x + 87 + 17) i w) (x + 87 + 18) i A') (x + 87 + 19) i B') (x + 87 + 20) row a = M.2 a := fun A' B' row a h1 h2 h3 h4 => by rw [m_row_ne (by omega), m_up_ne (by omega), m_up_ne (by omega), m_up_ne (by omega)]
    have e17 : ∀ (A' B' : Int32) (row : Nat → Int32), m_row (m_up (m_up (m_up M.2 (x + 87 + 17) i w) (x + 87 + 18) i A') (x + 87 + 19) i B') (x + 87 + 20) row (x + 104) = upd (m (x + 104)) i w := fun A' B' row => by rw [m_row_ne (by omega), m_up_ne (by omega), m_up_ne (by omega), show x + 104 = x + 87 + 17 from rfl, m_up_row, fm _ (by omega)]
    have e18 : ∀ (A' B' : Int32) (row : Nat → Int32), m_row (m_up (m_up (m_up M.2 (x + 87 + 17) i w) (x + 87 + 18) i A') (x + 87 + 19) i B') (x + 87 + 20) row (x + 105) = upd (m (x + 105)) i A' := fun A' B' row => by rw [m_row_ne (by omega), m_up_ne (by omega), show x + 105 = x + 87 + 18 from rfl, m_up_row, m_up_ne (by omega), fm _ (by omega)]
    have e19 : ∀ (A' B' : Int32) (row : Nat → Int32), m_row (m_up (m_up (m_up M.2 (x + 87 + 17) i w) (x + 87 + 18) i A') (x + 87 + 19) i B') (x + 87 + 20) row (x + 106) = upd (m (x + 106)) i B' := fun A' B' row => by rw [m_row_ne (by omega), show x + 106 = x + 87 + 19 from rfl, m_up_row, m_up_ne (by omega), m_up_ne (by omega), fm _ (by omega)]
    have e20 : ∀ (A' B' : Int32) (row : Nat → Int32), m_row (m_up (m_up (m_up M.2 (x + 87 + 17) i w) (x + 87 + 18) i A') (x + 87 + 19) i B') (x + 87 + 20) row (x + 107) = row := fun A' B' row => m_row_self _ _ _
    have fin : ∀ (A' B' : Int32) (row : Nat → Int32), (∀ j, j ≠ i → ∀ k, k < 24 → row (24 * j + k) = m (x + 107) (24 * j + k)) → M.2 (x + 67 + 4 * i) 0 = w → (∃ z, z ≤ 24 ∧ M.2 (x + 67 + 4 * i + 2) 2 = nI z) → (w = 1 → (∃ c, c ≤ 5 ∧ M.2 (x + 67 + 4 * i + 1) 0 = nI c ∧ A' = nI c) ∧ ∃ u, u ≤ 12 ∧ M.2 (x + 67 + 4 * i + 1) 2 = nI u ∧ B' = nI u) → (w = 2 → M.2 (x + 67 + 4 * i + 2) 2 = A' ∧ ∀ k, k < 24 → M.2 (x + 67 + 4 * i + 2 + 1) k = row (24 * i + k)) → (w = 3 → M.2 (x + 67 + 4 * i) 3 = A') → Inv S (m_row (m_up (m_up (m_up M.2 (x + 87 + 17) i w) (x + 87 + 18) i A') (x + 87 + 19) i B') (x + 87 + 20) row) x := by
      intro A' B' row g1 g2 g3 g4 g5 g6
      refine inv_L hI (lay_inv hL (i := i) (by omega) (fun j h1 h2 b h3 => ?_) (e17 A' B' row) (e18 A' B' row) (e19 A' B' row) (fun j h1 k h2 => by rw [e20]; exact g1 j h1 k h2) ?_ ?_ ?_ ?_ ?_) (fun a h1 h2 => ?_)
      · rw [eM A' B' row _ (by omega) (by omega) (by omega) (by omega)]
        exact ff _ (by omega)
      · rw [eM A' B' row _ (by omega) (by omega) (by omega) (by omega)]; exact g2
      · rw [eM A' B' row _ (by omega) (by omega) (by omega) (by omega)]; exact g3
      · rw [eM A' B' row _ (by omega) (by omega) (by omega) (by omega)]; exact g4
      · rw [eM A' B' row (x + 67 + 4 * i + 2) (by omega) (by omega) (by omega) (by omega), eM A' B' row (x + 67 + 4 * i + 2 + 1) (by omega) (by omega) (by omega) (by omega), e20]; exact g5
      · rw [eM A' B' row _ (by omega) (by omega) (by omega) (by omega)]; exact g6
      · rw [eM A' B' row _ (by omega) (by omega) (by omega) (by omega)]
        exact ff _ (by omega)
    clear e17 e18 e19 e20 eM
    rw [show m (x + 87 + 17) i = m (x + 67 + 4 * i) 0 from l1.symm]
    obtain ⟨wk, hwk, rfl⟩ := lit_in (m := 3) (by decide) d.2.1
    have hw4 : wk = 0 ∨ wk = 1 ∨ wk = 2 ∨ wk = 3 := by omega
    rcases hw4 with rfl | rfl | rfl | rfl
    · rw [if_neg (fun g => absurd g.1 (by decide)), if_neg (by decide), if_neg (by decide), if_neg (by decide)] at hM
      rw [if_neg (fun g => absurd g.1 (by decide)), if_neg (by decide), if_neg (by decide), if_neg (by decide), if_neg (by decide)]
      refine ⟨by rw [hM], fin _ _ _ (fun _ _ _ _ => rfl) (by rw [hM]; simp [m_up]) ?_ (fun g => absurd g (by decide)) (fun g => absurd g (by decide)) (fun g => absurd g (by decide))⟩
      rw [hM]
      dsimp only
      rw [m_up_ne (by omega)]
      exact l2
    · obtain ⟨a, ha, rfl⟩ := att_in (d.2.2.1 rfl) n8
      rw [if_neg (fun g => absurd g.1 (by decide)), if_pos (by decide), nI_clamp (by omega)] at hM
      rw [if_neg (fun g => absurd g.1 (by decide)), if_pos (by decide), if_pos (by decide), if_neg (by decide), nI_clamp (by omega)]
      obtain ⟨z, z1, z2⟩ := rg_kind q.2.2.1 ha
      obtain ⟨u, _, u1, u2⟩ := rg_width q.2.2.1 ha
      have t0 : m (x + 1 + 9 + a) 0 = nI z := (twA q (f := 0) (by decide) ha).trans z2
      have t2 : m (x + 1 + 9 + a) 2 = nI u := (twA q (f := 2) (by decide) ha).trans u2
      refine ⟨by rw [hM], fin _ _ _ (fun _ _ _ _ => rfl) (by rw [hM]; simp [m_up]) ?_ (fun _ => ⟨⟨z, z1, ?_, z2⟩, u, u1, ?_, u2⟩) (fun g => absurd g (by decide)) (fun g => absurd g (by decide))⟩
      · rw [hM]
        dsimp only
        rw [m_up_ne (by omega), m_up_ne (by omega), m_up_ne (by omega), m_up_ne (by omega), m_up_ne (by omega), m_up_ne (by omega)]
        exact l2
      · rw [hM]
        simp only [m_up]
        simp
        exact t0
      · rw [hM]
        simp only [m_up]
        simp
        exact t2
    · obtain ⟨K, hK, rfl⟩ := lit_in (m := 3) (by decide) (d.2.2.2 rfl)
      obtain ⟨f1, f2⟩ := ivH_at hH (i := K) (by omega)
      obtain ⟨e0, ⟨z, z1, z2, z3⟩, _⟩ := hH K (by omega)
      rw [nI_clamp (n := K) (by omega)] at hM ⊢
      by_cases s : m (x + 87 + 14) K < 0
      · rw [if_pos (And.intro (show nI 2 = (2 : Int32) from rfl) (f1.mp s))] at hM
        rw [if_pos (And.intro (show nI 2 = (2 : Int32) from rfl) s), hM]
        exact ⟨rfl, hI⟩
      · rw [if_neg (fun g => s (f1.mpr g.2)), if_neg (by decide), if_pos (by decide)] at hM
        rw [if_neg (fun g => s g.2), if_neg (by decide), if_pos (by decide), if_neg (by decide), if_pos (by decide)]
        refine ⟨by rw [hM], fin _ _ _ (fun j h1 k h2 => ?_) ?_ ⟨z, z1, ?_⟩ (fun g => absurd g (by decide)) (fun _ => ⟨?_, fun k hk => ?_⟩) (fun g => absurd g (by decide))⟩
        · unfold cpC
          rw [if_neg (by omega)]
        · rw [hM]
          dsimp only
          rw [cpy_ne (by omega), m_up_ne (by omega), m_up_ne (by omega), m_up_at]
        · rw [hM]
          dsimp only
          rw [cpy_ne (by omega), m_up_at, z2]
        · rw [hM]
          dsimp only
          rw [cpy_ne (by omega), m_up_at, z2, show m (x + 87 + 15) K = nI z from z3]
        · rw [hM]
          unfold cpC
          rw [if_pos (by omega)]
          dsimp only
          rw [cpy_at hk, m_up_ne (by omega), m_up_ne (by omega), m_up_ne (by omega), show 24 * i + k - 24 * i = k by omega]
          exact f2 s k hk
    · rw [if_neg (fun g => absurd g.1 (by decide)), if_neg (by decide), if_neg (by decide), if_pos (by decide)] at hM
      rw [if_neg (fun g => absurd g.1 (by decide)), if_neg (by decide), if_neg (by decide), if_neg (by decide), if_neg (by decide)]
      refine ⟨by rw [hM], fin _ _ _ (fun _ _ _ _ => rfl) (by rw [hM]; simp [m_up]) ?_ (fun g => absurd g (by decide)) (fun g => absurd g (by decide)) (fun _ => by rw [hM]; simp [m_up])⟩
      rw [hM]
      dsimp only
      rw [m_up_ne (by omega), m_up_ne (by omega)]
      exact l2
  · rw [if_neg d] at hM
    unfold mLay
    rw [if_neg d, hM]
    exact ⟨rfl, hI⟩
