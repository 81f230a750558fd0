/-! the steps: words told, the tape, the image, the check -/
theorem inv_W {S : Sg} {m M : Mem} {x : Nat} (hI : Inv S m x) (hW : IvW M x) (fr : ∀ a, a ≠ x → a ≠ x + 57 → a ≠ x + 87 → a ≠ x + 109 → M a = m a) (f3 : M x 3 = m x 3) (g3 : M (x + 87) 3 = m (x + 87) 3) (g7 : M (x + 87) 7 = m (x + 87) 7) : Inv S M x := by
  obtain ⟨i1, i2, i3, i4, i5, i6, i7, i8⟩ := hI
  have fb : ∀ a, a ≠ x ∧ a ≠ x + 57 ∧ a ≠ x + 87 ∧ a ≠ x + 109 → M a = m a := fun a g => fr a g.1 g.2.1 g.2.2.1 g.2.2.2
  exact ⟨i1, i2.fr (fb _ (by omega)) (fun a h1 h2 => fb a (by omega)) (fun a h1 => fb a (by omega)), i3.fr f3 g3 (fb _ (by omega)) (fun a h1 h2 => fb a (by omega)) (fun a h1 => fb a (by omega)), i4.fr (fb _ (by omega)) (fb _ (by omega)) g7 (fb _ (by omega)) (fb _ (by omega)) (fb _ (by omega)), i5.fr (fun a h1 h2 => fb a (by omega)) (fb _ (by omega)) (fb _ (by omega)) (fb _ (by omega)), i6.fr (fun a h1 h2 => fb a (by omega)) (fb _ (by omega)) (fb _ (by omega)) (fb _ (by omega)) (fb _ (by omega)), hW, i8.fr (fb _ (by omega)) (fb _ (by omega))⟩
theorem inv_T {S : Sg} {m M : Mem} {x : Nat} (hI : Inv S m x) (hT : IvT M x) (fr : ∀ a, a ≠ x + 52 → a ≠ x + 53 → a ≠ x + 54 → a ≠ x + 87 → a ≠ x + 93 → a ≠ x + 96 → a ≠ x + 97 → a ≠ x + 98 → M a = m a) (g3 : M (x + 87) 3 = m (x + 87) 3) (g33 : M (x + 87) 33 = m (x + 87) 33) : Inv S M x := by
  obtain ⟨i1, i2, i3, i4, i5, i6, i7, i8⟩ := hI
  have fb : ∀ a, a ≠ x + 52 ∧ a ≠ x + 53 ∧ a ≠ x + 54 ∧ a ≠ x + 87 ∧ a ≠ x + 93 ∧ a ≠ x + 96 ∧ a ≠ x + 97 ∧ a ≠ x + 98 → M a = m a := fun a g => fr a g.1 g.2.1 g.2.2.1 g.2.2.2.1 g.2.2.2.2.1 g.2.2.2.2.2.1 g.2.2.2.2.2.2.1 g.2.2.2.2.2.2.2
  exact ⟨i1, i2.fr (fb _ (by omega)) (fun a h1 h2 => fb a (by omega)) (fun a h1 => fb a (by omega)), i3.fr (by rw [fb x (by omega)]) g3 (fb _ (by omega)) (fun a h1 h2 => fb a (by omega)) (fun a h1 => fb a (by omega)), hT, i5.fr (fun a h1 h2 => fb a (by omega)) (fb _ (by omega)) (fb _ (by omega)) (fb _ (by omega)), i6.fr (fun a h1 h2 => fb a (by omega)) (fb _ (by omega)) (fb _ (by omega)) (fb _ (by omega)) (fb _ (by omega)), i7.fr (by rw [fb x (by omega)]) g33 (fb _ (by omega)) (fb _ (by omega)), i8.fr (fb _ (by omega)) (fb _ (by omega))⟩
theorem st_tell {X : Xb} {S : Sg} {m : Mem} {x : Nat} (hI : Inv S m x) (v : Int32) : CStep 0 0 0 0 fX6_tell fX7_tell X [.int v] S m x := by
  obtain ⟨w, w1, w2, w3, w4⟩ := hI.2.2.2.2.2.2.1
  by_cases c : w < 60
  · have k6 := ok_X6_tell (X := X) (v := v) hI.1.1 w2 w1
    unfold cTell at k6
    rw [if_pos c] at k6
    have g33 : m_up (m_up m (x + 57) w v) x 8 (nI (w + 1)) (x + 87) 33 = nI w := by rw [m_up_ne (by omega), m_up_ne (by omega)]; exact w3
    have k7 := ok_X7_tell (X := X) (v := v) (mi := m_up (m_up m (x + 57) w v) x 8 (nI (w + 1))) hI.1.2.1 g33 w1
    unfold mTell at k7
    rw [if_pos c] at k7
    refine stp_mem hI k6 k7 (fun r S2 m2 hp => ?_)
    obtain ⟨p1, p2, p3⟩ := hp
    refine ⟨p1, p2, ?_⟩
    rw [p3]
    dsimp only
    refine inv_W hI ⟨w + 1, by omega, ?_, ?_, fun i hi => ?_⟩ (fun a h1 h2 h3 h4 => ?_) ?_ ?_ ?_
    · rw [m_up_ne (by omega), m_up_ne (by omega), m_up_at]
    · rw [m_up_at]
    · rw [m_up_ne (by omega), m_up_ne (by omega), m_up_ne (by omega), m_up_row, m_up_ne (show x + 109 ≠ x + 87 by omega), show x + 109 = x + 87 + 22 from rfl, m_up_row, m_up_ne (by omega), m_up_ne (by omega)]
      by_cases e : i = w
      · rw [e, upd_at, upd_at]
      · rw [upd_ne e, upd_ne e]
        exact w4 i (by omega)
    · rw [m_up_ne (by omega), m_up_ne (by omega), m_up_ne (by omega), m_up_ne (by omega)]
    · rw [m_up_ne (by omega), m_up_ne (by omega), m_up_of (by decide), m_up_ne (by omega)]
    · rw [m_up_of (by decide), m_up_ne (by omega), m_up_ne (by omega), m_up_ne (by omega)]
    · rw [m_up_of (by decide), m_up_ne (by omega), m_up_ne (by omega), m_up_ne (by omega)]
  · have k6 := ok_X6_tell (X := X) (v := v) hI.1.1 w2 w1
    unfold cTell at k6
    rw [if_neg c] at k6
    have k7 := ok_X7_tell (X := X) (v := v) hI.1.2.1 w3 w1
    unfold mTell at k7
    rw [if_neg c] at k7
    exact stp_id hI k6 k7
theorem st_trim {X : Xb} {S : Sg} {m : Mem} {x : Nat} (hI : Inv S m x) (v : Int32) : CStep 1 0 0 1 fX6_trim fX7_trim X [.int v] S m x := by
  obtain ⟨⟨l, l1, l2, l3, l4⟩, k1, k2⟩ := hI.2.2.2.1
  have k6 := ok_X6_trim (X := X) (S := S) (mi := m) (v := v) hI.1.1
  rw [l2] at k6
  by_cases c : 0 ≤ v ∧ v ≤ nI l
  · rw [if_pos c, if_pos c] at k6
    obtain ⟨a, a1, rfl⟩ := lit_in (m := l) (by omega) c
    have k7 := ok_X7_trim (X := X) (S := S) (mi := m_up m (x + 52) 1 (nI a)) (v := nI a) hI.1.2.1
    rw [show m_up m (x + 52) 1 (nI a) (x + 87) 7 = nI l by rw [m_up_ne (by omega)]; exact l3, if_pos c, if_pos c] at k7
    refine stp_mem hI k6 k7 (fun r S2 m2 hp => ?_)
    obtain ⟨p1, p2, p3⟩ := hp
    refine ⟨p1, p2, ?_⟩
    rw [p3]
    refine inv_T hI ⟨⟨a, by omega, ?_, m_up_at _ _ _ _, fun j hj => ?_⟩, fun j hj => ?_, fun j hj => ?_⟩ (fun b h1 h2 h3 h4 h5 h6 h7 h8 => ?_) ?_ ?_
    · rw [m_up_ne (by omega), m_up_at]
    · rw [m_up_ne (by omega), m_up_ne (by omega), m_up_ne (by omega), m_up_ne (by omega)]
      exact l4 j (by omega)
    · rw [m_up_ne (by omega), m_up_ne (by omega)]; exact k1 j hj
    · rw [m_up_ne (by omega), m_up_ne (by omega)]; exact k2 j hj
    · rw [m_up_ne (by omega), m_up_ne (by omega)]
    · rw [m_up_of (by decide), m_up_ne (by omega)]
    · rw [m_up_of (by decide), m_up_ne (by omega)]
  · rw [if_neg c, if_neg c] at k6
    have k7 := ok_X7_trim (X := X) (S := S) (mi := m) (v := v) hI.1.2.1
    rw [l3, if_neg c, if_neg c] at k7
    exact stp_id hI k6 k7
theorem fdR_same {b c : Nat → Int32} {l : Nat} {x y z : Int32} (h : sameB b c l) : ∀ k, sameB (fdR b l x y z k) (fdR c l x y z k) (l + k)
  | 0 => h
  | k + 1 => by
    intro j hj
    simp only [fdR]
    by_cases e : j = l + k
    · rw [e, upd_at, upd_at]
    · rw [upd_ne e, upd_ne e]
      exact fdR_same h k j (by omega)
theorem st_feed {X : Xb} {S : Sg} {m : Mem} {x : Nat} (hI : Inv S m x) (a b c : Int32) : CStep 1 0 0 1 fX6_feed fX7_feed X [.int a, .int b, .int c] S m x := by
  obtain ⟨⟨l, l1, l2, l3, l4⟩, k1, k2⟩ := hI.2.2.2.1
  refine (ok_X6_feed (X := X) (S := S) (mi := m) (a := a) (b := b) (c := c) hI.1.1 l2 l1).post (fun r S1 m1 hp => ?_)
  obtain ⟨rfl, ⟨p1, p2, p3⟩ | ⟨p1, p2, p3, p4, p5⟩⟩ := hp
  · subst p3
    refine ⟨_, p2, hI.1.1.1, hI.1.2.1.1, (ok_X7_feed (X := X) (a := a) (b := b) (c := c) hI.1.2.1 l3 l1).post (fun r2 S2 m2 hq => ?_)⟩
    obtain ⟨rfl, ⟨q1, q2, q3⟩ | ⟨q1, _⟩⟩ := hq
    · subst q3
      exact ⟨q2, hI, by omega⟩
    · omega
  · have e87 : m1 (x + 87) = m (x + 87) := p5 _ (by omega) (by omega)
    refine ⟨_, p2, hI.1.1.1, hI.1.2.1.1, (ok_X7_feed (X := X) (a := a) (b := b) (c := c) hI.1.2.1 (by rw [e87]; exact l3) l1).post (fun r2 S2 m2 hq => ?_)⟩
    obtain ⟨rfl, ⟨q1, _⟩ | ⟨q1, q2, q3, q4, q5⟩⟩ := hq
    · omega
    · refine ⟨q2, ?_, by omega⟩
      refine inv_T hI ⟨⟨l + 12, by omega, ?_, ?_, ?_⟩, fun j hj => ?_, fun j hj => ?_⟩ (fun d h1 h2 h3 h4 h5 h6 h7 h8 => ?_) ?_ ?_
      · rw [q5 _ (by omega) (by omega), p3, upd_at]
      · rw [q3, upd_at]
      · rw [q5 _ (by omega) (by omega), p4, show x + 93 = x + 87 + 6 from rfl, q4, p5 _ (by omega) (by omega)]
        exact fdR_same l4 12
      · rw [q5 _ (by omega) (by omega), p5 _ (by omega) (by omega)]; exact k1 j hj
      · rw [q5 _ (by omega) (by omega), p5 _ (by omega) (by omega)]; exact k2 j hj
      · rw [q5 _ (by omega) (by omega), p5 _ (by omega) (by omega)]
      · rw [q3, upd_ne (by decide), e87]
      · rw [q3, upd_ne (by decide), e87]
/-- texts taken over -/
theorem txi_mv {x t u c : Nat} {S : Sg} {m m' : Mem} {A : Nat → Int32} (h : TxI (x + 110) S m u A c) (ht : t + 4 = x + 5 ∨ t + 4 = x + 39) (e5 : ∀ j, j < 3 → m' (t + 5) j = m (u + 5) j) (ep : ∀ a, x + 110 ≤ a → m' a = m a) : TxI (x + 110) (cpS S t u 14) m' t A c := by
  have sx : SgX x S (cpS S t u 14) := SgX.cp S (by omega)
  have er : ∀ i, i < 14 → (cpS S t u 14).2.2 (t + 4) i = S.2.2 (u + 4) i := fun i hi => by
    show cpR S.2.2 t u 14 (t + 4) i = _
    simp only [cpR]
    rw [if_pos ⟨trivial, hi⟩]
  obtain ⟨h1, h2, h3, h4, h6⟩ := h
  refine ⟨h1, h2, fun i hi p hp => h3 i hi p (by rw [← er i hi]; exact hp), fun i hi => ?_, fun k hk => by rw [e5 k hk]; exact h6 k hk⟩
  obtain ⟨p, key, l, hp, o1, o2, o3, o4, o5, o6, o7, o8, o9, o10⟩ := h4 i hi
  refine ⟨p, key, l, hp, by rw [er i (by omega)]; exact o1, ⟨o2.1, by rw [sx.2.2 p o2.1.1 (by omega) (by omega) (by omega)]; exact o2.2.1, o2.2.2⟩, o3, o4, o5, by rw [ep p hp]; exact o6, by rw [ep p hp]; exact o7, fun j hj => by rw [ep (p + 1) (by omega)]; exact o8 j hj, o9, o10⟩
theorem cpy_all {m : Mem} {a b : Nat} (hz : ∀ j, 1438 ≤ j → m b j = m a j) : m_cpy m a b 0 0 1438 b = m a := by
  funext k
  by_cases c : k < 1438
  · exact cpy_at c
  · simp only [m_cpy]
    rw [if_neg (fun z => by have := z.2.2; omega)]
    exact hz k (by omega)
theorem st_keep {X : Xb} {S : Sg} {m : Mem} {x : Nat} (hI : Inv S m x) : CStep 2 0 0 1 fX6_keep fX7_keep X [] S m x := by
  obtain ⟨n, h, c, q⟩ := hI.2.1
  have n8 := q.2.2.1.1
  have T := q.2.2.2.2
  obtain ⟨i1, i2, i3, i4, i5, i6, i7, i8⟩ := hI
  refine (ok_X6_keep (X := X) i1.1 (tw3 q (j := 1) (by decide) |>.trans q.2.1) n8 T.2.2.1).post (fun r S1 m1 hp => ?_)
  obtain ⟨p1, rfl, p3, p4, p5, p6⟩ := hp
  have sx : SgX x S (cpS S (x + 35) (x + 1) 14) := SgX.cp S (by omega)
  have i1' := sx.iv i1
  refine ⟨_, p1, i1'.1.1, i1'.2.1.1, (ok_X7_keep (X := X) i1'.2.1).post (fun r2 S2 m2 hq => ?_)⟩
  obtain ⟨q1, rfl, q3⟩ := hq
  dsimp only at q1 q3
  have e88 : m1 (x + 87 + 1) = m (x + 88) := p4 _ (by omega)
  have e89 : m1 (x + 87 + 2) = m (x + 89) := p4 _ (by omega)
  refine ⟨by rw [q1, e88, q.2.1], ?_, by show S.1 ≤ S.1 + 0; omega⟩
  have f0 : ∀ a, a ≠ x + 87 → a ≠ x + 89 → m2 a = m1 a := fun a h1 h2 => by rw [q3, m_up_ne h1, cpy_ne (by omega)]
  have f89 : m2 (x + 89) = m (x + 88) := by
    rw [q3, m_up_ne (by omega), show x + 89 = x + 87 + 2 from rfl, cpy_all (fun j hj => by rw [e88, e89]; exact (i8 j hj).2.trans (i8 j hj).1.symm), e88]
  have f87 : m2 (x + 87) = upd (m (x + 87)) 3 1 := by rw [q3, m_up_row, cpy_ne (by omega), p4 _ (by omega)]
  have fx : m2 x = upd (m x) 3 1 := by rw [f0 x (by omega) (by omega), p3]
  have fa : ∀ a, ((x < a ∧ a < x + 35) ∨ x + 52 ≤ a) ∧ a ≠ x + 87 ∧ a ≠ x + 89 → m2 a = m a := fun a g => (f0 a g.2.1 g.2.2).trans (p4 a (by omega))
  refine ⟨i1', ⟨n, h, c, ?_⟩, ⟨by rw [fx, f87, upd_at, upd_at], Or.inr ⟨by rw [fx, upd_at], n, h, c, ?_⟩⟩, i4.fr (fa _ (by omega)) (fa _ (by omega)) (by rw [f87, upd_ne (by decide)]) (fa _ (by omega)) (fa _ (by omega)) (fa _ (by omega)), i5.fr (fun a h1 h2 => fa a (by omega)) (fa _ (by omega)) (fa _ (by omega)) (fa _ (by omega)), i6.fr (fun a h1 h2 => fa a (by omega)) (fa _ (by omega)) (fa _ (by omega)) (fa _ (by omega)) (fa _ (by omega)), i7.fr (by rw [fx, upd_ne (by decide)]) (by rw [f87, upd_ne (by decide)]) (fa _ (by omega)) (fa _ (by omega)), fun j hj => ?_⟩
  · rw [fa (x + 88) (by omega)]
    exact (sx.q (t := x + 1) (cp_row (by omega)) q).fr (fun a h1 h2 => fa a (by omega)) (fun a h1 => fa a (by omega))
  · rw [f89]
    refine ⟨fun j hj => ?_, q.2.1, q.2.2.1, q.2.2.2.1, txi_mv T (Or.inr rfl) (fun j hj => ?_) (fun a h1 => fa a (by omega))⟩
    · rw [tv_c (m := m1) (fun a h1 h2 => f0 a (by omega) (by omega)) j (by omega), p5 j hj]
      exact q.1 j hj
    · rw [f0 _ (by omega) (by omega)]
      exact p6 j hj
  · rw [fa (x + 88) (by omega), f89]
    exact ⟨(i8 j hj).1, (i8 j hj).1⟩
theorem st_back {X : Xb} {S : Sg} {m : Mem} {x : Nat} (hI : Inv S m x) : CStep 2 0 0 1 fX6_back fX7_back X [] S m x := by
  have hI' := hI
  obtain ⟨i1, i2, ⟨i30, i31⟩, i4, i5, i6, i7, i8⟩ := hI
  rcases i31 with k0 | ⟨k1, n, h, c, q⟩
  · have k6 := ok_X6_back (X := X) (S := S) (mi := m) (n := 0) i1.1 (Or.inl k0) (fun g => absurd (k0.symm.trans g) (by decide))
    have k7 := ok_X7_back (X := X) (S := S) (mi := m) i1.2.1
    rw [if_pos (i30.symm.trans k0)] at k7
    refine stp_id hI' (k6.post (fun r S1 m1 hp => ?_)) k7
    rcases hp with g | g
    · exact g.2
    · exact absurd (k0.symm.trans g.1) (by decide)
  · have n8 := q.2.2.1.1
    have T := q.2.2.2.2
    refine (ok_X6_back (X := X) (S := S) (mi := m) (n := n) i1.1 (Or.inr k1) (fun _ => ⟨tw3 q (j := 1) (by decide) |>.trans q.2.1, n8, T.2.2.1⟩)).post (fun r S1 m1 hp => ?_)
    rcases hp with g | ⟨_, p1, rfl, p4, p5, p6⟩
    · exact absurd (k1.symm.trans g.1) (by decide)
    · have sx : SgX x S (cpS S (x + 1) (x + 35) 14) := SgX.cp S (by omega)
      have i1' := sx.iv i1
      have k7 := ok_X7_back (X := X) (S := cpS S (x + 1) (x + 35) 14) (mi := m1) i1'.2.1
      have e87 : m1 (x + 87) = m (x + 87) := p4 _ (by omega)
      have e88 : m1 (x + 87 + 1) = m (x + 88) := p4 _ (by omega)
      have e89 : m1 (x + 87 + 2) = m (x + 89) := p4 _ (by omega)
      rw [if_neg (show ¬ m1 (x + 87) 3 = 0 by rw [e87, ← i30, k1]; decide)] at k7
      refine ⟨_, p1, i1'.1.1, i1'.2.1.1, k7.post (fun r2 S2 m2 hq => ?_)⟩
      obtain ⟨q1, rfl, q3⟩ := hq
      dsimp only at q1 q3
      refine ⟨by rw [q1, e89, q.2.1], ?_, by show S.1 ≤ S.1 + 0; omega⟩
      have f0 : ∀ a, a ≠ x + 88 → m2 a = m1 a := fun a h1 => by rw [q3, cpy_ne (by omega)]
      have f88 : m2 (x + 88) = m (x + 89) := by
        rw [q3, show x + 88 = x + 87 + 1 from rfl, cpy_all (fun j hj => by rw [e88, e89]; exact (i8 j hj).1.trans (i8 j hj).2.symm), e89]
      have fa : ∀ a, (a < x + 1 ∨ x + 18 ≤ a) ∧ a ≠ x + 88 → m2 a = m a := fun a g => (f0 a g.2).trans (p4 a g.1)
      refine ⟨i1', ⟨n, h, c, ?_⟩, ⟨by rw [fa x (by omega), fa (x + 87) (by omega)]; exact i30, Or.inr ⟨by rw [fa x (by omega)]; exact k1, n, h, c, ?_⟩⟩, i4.fr (fa _ (by omega)) (fa _ (by omega)) (by rw [fa (x + 87) (by omega)]) (fa _ (by omega)) (fa _ (by omega)) (fa _ (by omega)), i5.fr (fun a h1 h2 => fa a (by omega)) (fa _ (by omega)) (fa _ (by omega)) (fa _ (by omega)), i6.fr (fun a h1 h2 => fa a (by omega)) (fa _ (by omega)) (fa _ (by omega)) (fa _ (by omega)) (fa _ (by omega)), i7.fr (by rw [fa x (by omega)]) (by rw [fa (x + 87) (by omega)]) (fa _ (by omega)) (fa _ (by omega)), fun j hj => ?_⟩
      · rw [f88]
        refine ⟨fun j hj => ?_, q.2.1, q.2.2.1, q.2.2.2.1, txi_mv T (Or.inl rfl) (fun j hj => ?_) (fun a h1 => fa a (by omega))⟩
        · rw [tv_c (m := m1) (fun a h1 h2 => f0 a (by omega)) j (by omega), p5 j hj]
          exact q.1 j hj
        · rw [f0 _ (by omega)]
          exact p6 j hj
      · rw [fa (x + 89) (by omega)]
        exact (sx.q (t := x + 35) (cp_row (by omega)) q).fr (fun a h1 h2 => fa a (by omega)) (fun a h1 => fa a (by omega))
      · rw [f88, fa (x + 89) (by omega)]
        exact ⟨(i8 j hj).2, (i8 j hj).2⟩
theorem chk_fin {S S1 : Sg} {m m1 m2 : Mem} {x : Nat} (hI : Inv S m x) (hS : S1 = S ∨ S1 = cpS S (x + 18) (x + 35) 14) (p3 : m1 x = upd (m x) 8 0) (p4 : ∀ a, a ≠ x → (a < x + 18 ∨ x + 35 ≤ a) → m1 a = m a) (q3 : m2 (x + 87) = upd (m1 (x + 87)) 33 0) (q4 : m2 (x + 88) = m1 (x + 88)) (q5 : ∀ a, a ≠ x + 87 → a ≠ x + 88 → a ≠ x + 90 → a ≠ x + 99 → a ≠ x + 100 → m2 a = m1 a) : Inv S1 m2 x := by
  have hI2 : Inv S m2 x := by
    obtain ⟨i1, i2, i3, i4, i5, i6, i7, i8⟩ := hI
    have e87 : m1 (x + 87) = m (x + 87) := p4 _ (by omega) (by omega)
    have f87 : m2 (x + 87) = upd (m (x + 87)) 33 0 := by rw [q3, e87]
    have fx : m2 x = upd (m x) 8 0 := by rw [q5 x (by omega) (by omega) (by omega) (by omega) (by omega), p3]
    have f88 : m2 (x + 88) = m (x + 88) := by rw [q4, p4 _ (by omega) (by omega)]
    have fa : ∀ a, a ≠ x ∧ (a < x + 18 ∨ x + 35 ≤ a) ∧ a ≠ x + 87 ∧ a ≠ x + 88 ∧ a ≠ x + 90 ∧ a ≠ x + 99 ∧ a ≠ x + 100 → m2 a = m a := fun a g => (q5 a g.2.2.1 g.2.2.2.1 g.2.2.2.2.1 g.2.2.2.2.2.1 g.2.2.2.2.2.2).trans (p4 a g.1 g.2.1)
    exact ⟨i1, i2.fr f88 (fun a h1 h2 => fa a (by omega)) (fun a h1 => fa a (by omega)), i3.fr (by rw [fx, upd_ne (by decide)]) (by rw [f87, upd_ne (by decide)]) (fa _ (by omega)) (fun a h1 h2 => fa a (by omega)) (fun a h1 => fa a (by omega)), i4.fr (fa _ (by omega)) (fa _ (by omega)) (by rw [f87, upd_ne (by decide)]) (fa _ (by omega)) (fa _ (by omega)) (fa _ (by omega)), i5.fr (fun a h1 h2 => fa a (by omega)) (fa _ (by omega)) (fa _ (by omega)) (fa _ (by omega)), i6.fr (fun a h1 h2 => fa a (by omega)) (fa _ (by omega)) (fa _ (by omega)) (fa _ (by omega)) (fa _ (by omega)), ⟨0, by omega, by rw [fx, upd_at]; rfl, by rw [f87, upd_at]; rfl, fun i hi => absurd hi (Nat.not_lt_zero i)⟩, i8.fr f88 (fa _ (by omega))⟩
  rcases hS with rfl | rfl
  · exact hI2
  · have sx : SgX x S (cpS S (x + 18) (x + 35) 14) := SgX.cp S (by omega)
    obtain ⟨i1, ⟨n, h, c, q⟩, i3, i4⟩ := hI2
    exact ⟨sx.iv i1, ⟨n, h, c, sx.q (t := x + 1) (cp_row (by omega)) q⟩, sx.im (cp_row (by omega)) i3, i4⟩
theorem st_check {X : Xb} {S : Sg} {m : Mem} {x : Nat} (hI : Inv S m x) (v : Int32) : CStep 5 0 0 7 fX6_check fX7_check X [.int v] S m x := by
  obtain ⟨w, w1, w2, w3, w4⟩ := hI.2.2.2.2.2.2.1
  have i1 := hI.1
  obtain ⟨i30, i31⟩ := hI.2.2.1
  have i8 := hI.2.2.2.2.2.2.2
  have go : ∀ (lw : LawT) (B : Nat → Int32) (n h : Nat), Ok 5 0 0 fX6_check X [rf X x, .int v] S m (PC S m x (cCheck lw B n h (m x 3) (m (x + 57)) w v)) → (∀ S1 m1, MdA S1 (x + 87) → (∀ a, x + 35 ≤ a → m1 a = m a) → ∃ kp ws, mCheck lw B n h kp ws w v = cCheck lw B n h (m x 3) (m (x + 57)) w v ∧ Ok 7 0 0 fX7_check X [rf X (x + 87), .int v] S1 m1 (PKc S1 m1 (x + 87) (mCheck lw B n h kp ws w v))) → CStep 5 0 0 7 fX6_check fX7_check X [.int v] S m x := by
    intro lw B n h k6 k7
    refine k6.post (fun r S1 m1 hp => ?_)
    obtain ⟨p1, p2, p3, p4⟩ := hp
    have sx : SgX x S S1 ∧ S1.1 = S.1 := by
      rcases p2 with rfl | rfl
      · exact ⟨SgX.rf _ _, rfl⟩
      · exact ⟨SgX.cp S (by omega), rfl⟩
    have i1' := sx.1.iv i1
    obtain ⟨kp, ws, e, k⟩ := k7 S1 m1 i1'.2.1 (fun a ha => p4 a (by omega) (by omega))
    refine ⟨_, p1, i1'.1.1, i1'.2.1.1, k.post (fun r2 S2 m2 hq => ?_)⟩
    obtain ⟨q1, rfl, q3, q4, q5⟩ := hq
    refine ⟨by rw [q1, e], chk_fin hI p2 p3 p4 q3 q4 (fun a h1 h2 h3 h4 h5 => q5 a (by omega) (by omega) (by omega) (by omega) (by omega)), by have := sx.2; omega⟩
  rcases i31 with k0 | ⟨k1, n, h, c, q⟩
  · refine go none (fun _ => 0) 0 0 (ok_X6_check i1.1 w2 w1 (Or.inl k0)) (fun S1 m1 hM fm => ⟨m1 (x + 87) 3, m1 (x + 87 + 22), ?_, ok_X7_check (t := 0) hM (by rw [fm (x + 87) (by omega)]; exact w3) w1 (Or.inl (by rw [fm (x + 87) (by omega)]; exact i30.symm.trans k0))⟩)
    unfold mCheck cCheck
    rw [fm (x + 87) (by omega), ← i30, k0, if_pos rfl, if_pos rfl]
  · have n8 := q.2.2.1.1
    have T := q.2.2.2.2
    have hl0 : lwC S m (x + 35) 0 = lwM (m (x + 89)) 0 c := txi_lw T (by decide)
    refine go (lwM (m (x + 89)) 0 c) (m (x + 89)) n h (ok_X6_check i1.1 w2 w1 (Or.inr ⟨k1, n8, q.1, q.2.1, q.2.2.1.2.1, q.2.2.2.1, txi_ok T (by decide), hl0, T.2.2.1⟩)) (fun S1 m1 hM fm => ⟨m1 (x + 87) 3, m1 (x + 87 + 22), ?_, ok_X7_check (t := c) hM (by rw [fm (x + 87) (by omega)]; exact w3) w1 (Or.inr ⟨by rw [fm (x + 87) (by omega)]; exact i30.symm.trans k1, n8, fm (x + 87 + 2) (by omega), q.2.1, q.2.2.1.2.1, q.2.2.2.1, T.2.1, T.1, txi_mt T, rfl, fun j hj => by rw [fm (x + 87 + 1) (by omega)]; exact (i8 j hj).1.trans (i8 j hj).2.symm⟩)⟩)
    rw [check_eq q.2.2.1 q.2.2.2.1, fm (x + 87) (by omega), fm (x + 87 + 22) (by omega), ← i30]
    exact chkS_c (fun i hi => (w4 i hi).symm)
