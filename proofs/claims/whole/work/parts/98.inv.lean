/-! between two calls: what class and model hold -/
def TwQ (lim : Nat) (S : Sg) (m : Mem) (t : Nat) (A : Nat → Int32) (n h c : Nat) : Prop := eqOn (26 + 5 * n) (tv m t) A ∧ A 1 = nI n ∧ Rg n h A ∧ h ≤ 9999 ∧ TxI lim S m t A c
def IvS (S : Sg) (x : Nat) : Prop := AsA S x ∧ MdA S (x + 87) ∧ x + 110 ≤ S.1
def IvN (S : Sg) (m : Mem) (x : Nat) : Prop := ∃ n h c, TwQ (x + 110) S m (x + 1) (m (x + 88)) n h c
def IvI (S : Sg) (m : Mem) (x : Nat) : Prop := m x 3 = m (x + 87) 3 ∧ (m x 3 = 0 ∨ (m x 3 = 1 ∧ ∃ n h c, TwQ (x + 110) S m (x + 35) (m (x + 89)) n h c))
def IvT (m : Mem) (x : Nat) : Prop := (∃ l, l ≤ 96 ∧ m (x + 52) 1 = nI l ∧ m (x + 87) 7 = nI l ∧ sameB (m (x + 53)) (m (x + 93)) l) ∧ (∀ j, j < 11 → m (x + 94) j = keysF j) ∧ ∀ j, j < 4 → m (x + 95) j = nI (katN j)
def IvH (m : Mem) (x : Nat) : Prop := ∀ i, i < 4 → m (x + 59 + 2 * i) 1 = m (x + 101) i ∧ (∃ z, z ≤ 24 ∧ m (x + 59 + 2 * i) 2 = nI z ∧ m (x + 102) i = nI z) ∧ (m (x + 101) i = -1 ∨ ((m (x + 101) i = 0 ∨ m (x + 101) i = 1) ∧ ∀ k, k < 24 → m (x + 59 + 2 * i + 1) k = m (x + 103) (24 * i + k)))
def IvL (m : Mem) (x : Nat) : Prop := ∀ i, i < 5 → m (x + 67 + 4 * i) 0 = m (x + 104) i ∧ (∃ z, z ≤ 24 ∧ m (x + 67 + 4 * i + 2) 2 = nI z) ∧ (m (x + 104) i = 1 → (∃ c, c ≤ 5 ∧ m (x + 67 + 4 * i + 1) 0 = nI c ∧ m (x + 105) i = nI c) ∧ ∃ w, w ≤ 12 ∧ m (x + 67 + 4 * i + 1) 2 = nI w ∧ m (x + 106) i = nI w) ∧ (m (x + 104) i = 2 → m (x + 67 + 4 * i + 2) 2 = m (x + 105) i ∧ ∀ k, k < 24 → m (x + 67 + 4 * i + 2 + 1) k = m (x + 107) (24 * i + k)) ∧ (m (x + 104) i = 3 → m (x + 67 + 4 * i) 3 = m (x + 105) i)
def IvW (m : Mem) (x : Nat) : Prop := ∃ w, w ≤ 60 ∧ m x 8 = nI w ∧ m (x + 87) 33 = nI w ∧ ∀ i, i < w → m (x + 57) i = m (x + 109) i
def IvZ (m : Mem) (x : Nat) : Prop := ∀ j, 1438 ≤ j → m (x + 88) j = 0 ∧ m (x + 89) j = 0
def Inv (S : Sg) (m : Mem) (x : Nat) : Prop := IvS S x ∧ IvN S m x ∧ IvI S m x ∧ IvT m x ∧ IvH m x ∧ IvL m x ∧ IvW m x ∧ IvZ m x
theorem tv_c {t : Nat} {m n : Mem} (e : ∀ a, t ≤ a → a < t + 17 → n a = m a) : ∀ j, j < 66 → tv n t j = tv m t j := by
  intro j hj
  simp only [tv]
  rw [e t (by omega) (by omega), e (t + 1) (by omega) (by omega), e (t + 2) (by omega) (by omega)]
  by_cases c : j < 26
  · rw [if_pos c, if_pos c]
  · rw [if_neg c, if_neg c, e (t + 9 + (j - 26) / 5) (by omega) (by omega)]
theorem lastI_c {A B : Nat → Int32} {key : Int32} {n : Nat} (h : tail66 A B) : lastI B key n = lastI A key n := by
  unfold lastI
  rw [lastK_congr h]
theorem TxI.up {lim t c : Nat} {S : Sg} {m m' : Mem} {A B : Nat → Int32} (h : TxI lim S m t A c) (h5 : B 5 = A 5) (ht : tail66 A B) (e5 : m' (t + 5) = m (t + 5)) (ep : ∀ a, lim ≤ a → m' a = m a) : TxI lim S m' t B c := by
  obtain ⟨h1, h2, h3, h4, h6⟩ := h
  refine ⟨h1, h5.trans h2, h3, fun i hi => ?_, fun k hk => by rw [e5, lastI_c ht]; exact h6 k hk⟩
  obtain ⟨p, key, l, hp, o1, o2, o3, o4, o5, o6, o7, o8, o9, o10⟩ := h4 i hi
  refine ⟨p, key, l, hp, o1, o2, o3, o4, o5, by rw [ep p hp]; exact o6, by rw [ep p hp, ht _ (by omega)]; exact o7, fun j hj => by rw [ep (p + 1) (by omega)]; exact o8 j hj, by rw [ht _ (by omega)]; exact o9, fun j hj => by rw [ht _ (by omega)]; exact o10 j hj⟩
theorem TwQ.fr {lim t n h c : Nat} {S : Sg} {m m' : Mem} {A : Nat → Int32} (q : TwQ lim S m t A n h c) (e : ∀ a, t ≤ a → a < t + 17 → m' a = m a) (ep : ∀ a, lim ≤ a → m' a = m a) : TwQ lim S m' t A n h c := by
  obtain ⟨q1, q2, q3, q4, q5⟩ := q
  have n8 := q3.1
  refine ⟨fun j hj => by rw [tv_c e j (by omega)]; exact q1 j hj, q2, q3, q4, q5.up rfl (tail66.rf A) (e _ (by omega) (by omega)) ep⟩
/-- frames: what a piece reads hasn't changed -/
theorem IvT.fr {m m' : Mem} {x : Nat} (h : IvT m x) (e52 : m' (x + 52) = m (x + 52)) (e53 : m' (x + 53) = m (x + 53)) (e87 : m' (x + 87) 7 = m (x + 87) 7) (e93 : m' (x + 93) = m (x + 93)) (e94 : m' (x + 94) = m (x + 94)) (e95 : m' (x + 95) = m (x + 95)) : IvT m' x := by
  obtain ⟨⟨l, h1, h2, h3, h4⟩, h5, h6⟩ := h
  refine ⟨⟨l, h1, by rw [e52]; exact h2, by rw [e87]; exact h3, by rw [e53, e93]; exact h4⟩, by rw [e94]; exact h5, by rw [e95]; exact h6⟩
theorem IvH.fr {m m' : Mem} {x : Nat} (h : IvH m x) (e : ∀ a, x + 59 ≤ a → a < x + 67 → m' a = m a) (e1 : m' (x + 101) = m (x + 101)) (e2 : m' (x + 102) = m (x + 102)) (e3 : m' (x + 103) = m (x + 103)) : IvH m' x := by
  intro i hi
  rw [e (x + 59 + 2 * i) (by omega) (by omega), e (x + 59 + 2 * i + 1) (by omega) (by omega), e1, e2, e3]
  exact h i hi
theorem IvL.fr {m m' : Mem} {x : Nat} (h : IvL m x) (e : ∀ a, x + 67 ≤ a → a < x + 87 → m' a = m a) (e4 : m' (x + 104) = m (x + 104)) (e5 : m' (x + 105) = m (x + 105)) (e6 : m' (x + 106) = m (x + 106)) (e7 : m' (x + 107) = m (x + 107)) : IvL m' x := by
  intro i hi
  rw [e (x + 67 + 4 * i) (by omega) (by omega), e (x + 67 + 4 * i + 1) (by omega) (by omega), e (x + 67 + 4 * i + 2) (by omega) (by omega), e (x + 67 + 4 * i + 2 + 1) (by omega) (by omega), e4, e5, e6, e7]
  exact h i hi
theorem IvW.fr {m m' : Mem} {x : Nat} (h : IvW m x) (e0 : m' x 8 = m x 8) (e1 : m' (x + 87) 33 = m (x + 87) 33) (e2 : m' (x + 57) = m (x + 57)) (e3 : m' (x + 109) = m (x + 109)) : IvW m' x := by
  obtain ⟨w, h1, h2, h3, h4⟩ := h
  exact ⟨w, h1, by rw [e0]; exact h2, by rw [e1]; exact h3, by rw [e2, e3]; exact h4⟩
theorem IvI.fr {S : Sg} {m m' : Mem} {x : Nat} (h : IvI S m x) (e0 : m' x 3 = m x 3) (e1 : m' (x + 87) 3 = m (x + 87) 3) (e2 : m' (x + 89) = m (x + 89)) (e : ∀ a, x + 35 ≤ a → a < x + 52 → m' a = m a) (ep : ∀ a, x + 110 ≤ a → m' a = m a) : IvI S m' x := by
  obtain ⟨h1, h2⟩ := h
  refine ⟨by rw [e0, e1]; exact h1, ?_⟩
  rw [e0, e2]
  rcases h2 with g | ⟨g, n, hh, c, q⟩
  · exact Or.inl g
  · exact Or.inr ⟨g, n, hh, c, q.fr (fun a h1 h2 => e a (by omega) (by omega)) ep⟩
theorem IvN.fr {S : Sg} {m m' : Mem} {x : Nat} (h : IvN S m x) (e2 : m' (x + 88) = m (x + 88)) (e : ∀ a, x + 1 ≤ a → a < x + 18 → m' a = m a) (ep : ∀ a, x + 110 ≤ a → m' a = m a) : IvN S m' x := by
  obtain ⟨n, hh, c, q⟩ := h
  refine ⟨n, hh, c, ?_⟩
  rw [e2]
  exact q.fr (fun a h1 h2 => e a (by omega) (by omega)) ep
theorem IvZ.fr {m m' : Mem} {x : Nat} (h : IvZ m x) (e1 : m' (x + 88) = m (x + 88)) (e2 : m' (x + 89) = m (x + 89)) : IvZ m' x := by
  intro j hj
  rw [e1, e2]
  exact h j hj
/-- THE STEP: the class's call, then the model's: the same answer, and all holds again -/
def CStep (d6 mc ms d7 : Nat) (f6 f7 : Fr) (X : Xb) (As : List Value) (S : Sg) (m : Mem) (x : Nat) : Prop := Ok d6 mc ms f6 X (rf X x :: As) S m (fun r S1 m1 => ∃ a, r = some (.int a) ∧ Kd S1 x 6 0 ∧ Kd S1 (x + 87) 7 0 ∧ Ok d7 0 0 f7 X (rf X (x + 87) :: As) S1 m1 (fun r' S2 m2 => r' = some (.int a) ∧ Inv S2 m2 x ∧ S2.1 ≤ S.1 + mc))
/-- a new row, of the old one's texts -/
def NewR (A : Nat → Int32) (q : Sp) : Prop := q.2.1 1 = nI q.2.2 ∧ (∃ h, Rg q.2.2 h q.2.1 ∧ h ≤ 9999) ∧ q.2.1 5 = A 5 ∧ tail66 A q.2.1
theorem newR_id {A : Nat → Int32} {n h : Nat} {a : Int32} (h1 : A 1 = nI n) (g : Rg n h A) (hh : h ≤ 9999) : NewR A (a, A, n) := ⟨h1, ⟨h, g, hh⟩, rfl, tail66.rf A⟩
theorem stp_row {d6 d7 n h c : Nat} {f6 f7 : Fr} {X : Xb} {As : List Value} {S : Sg} {m : Mem} {x : Nat} {q : Sp} (hI : Inv S m x) (hq : TwQ (x + 110) S m (x + 1) (m (x + 88)) n h c) (hN : NewR (m (x + 88)) q) (h6 : Ok d6 0 0 f6 X (rf X x :: As) S m (PS S m x q)) (h7 : ∀ m1, m1 (x + 88) = m (x + 88) → (∀ a, x + 18 ≤ a → m1 a = m a) → Ok d7 0 0 f7 X (rf X (x + 87) :: As) S m1 (PM S m1 (x + 87) q)) : CStep d6 0 0 d7 f6 f7 X As S m x := by
  obtain ⟨i1, i2, i3, i4, i5, i6, i7, i8⟩ := hI
  refine h6.post (fun r S1 m1 hp => ?_)
  obtain ⟨p1, rfl, p3, p4⟩ := hp
  have fm : ∀ a, (a < x + 1 ∨ x + 18 ≤ a ∨ a = x + 6) → m1 a = m a := fun a ha => p4 a (by omega)
  refine ⟨q.1, p1, i1.1.1, i1.2.1.1, (h7 m1 (fm _ (by omega)) (fun a ha => fm a (by omega))).post (fun r2 S2 m2 hp2 => ?_)⟩
  obtain ⟨r1, rfl, r3, r4⟩ := hp2
  have fm2 : ∀ a, a ≠ x + 88 → a ≠ x + 99 → a ≠ x + 100 → m2 a = m1 a := fun a h1 h2 h3 => r4 a (by omega) (by omega) (by omega)
  have e88 : m2 (x + 88) = q.2.1 := r3
  have fa : ∀ a, (a < x + 1 ∨ x + 18 ≤ a ∨ a = x + 6) → a ≠ x + 88 → a ≠ x + 99 → a ≠ x + 100 → m2 a = m a := fun a ha h1 h2 h3 => (fm2 a h1 h2 h3).trans (fm a ha)
  obtain ⟨n1, ⟨h', n2, n3⟩, n4, n5⟩ := hN
  have n8 := n2.1
  refine ⟨r1, ⟨i1, ⟨q.2.2, h', c, ?_⟩, i3.fr (by rw [fa x (by omega) (by omega) (by omega) (by omega)]) (by rw [fa (x + 87) (by omega) (by omega) (by omega) (by omega)]) (fa _ (by omega) (by omega) (by omega) (by omega)) (fun a h1 h2 => fa a (by omega) (by omega) (by omega) (by omega)) (fun a h1 => fa a (by omega) (by omega) (by omega) (by omega)), i4.fr (fa _ (by omega) (by omega) (by omega) (by omega)) (fa _ (by omega) (by omega) (by omega) (by omega)) (by rw [fa (x + 87) (by omega) (by omega) (by omega) (by omega)]) (fa _ (by omega) (by omega) (by omega) (by omega)) (fa _ (by omega) (by omega) (by omega) (by omega)) (fa _ (by omega) (by omega) (by omega) (by omega)), i5.fr (fun a h1 h2 => fa a (by omega) (by omega) (by omega) (by omega)) (fa _ (by omega) (by omega) (by omega) (by omega)) (fa _ (by omega) (by omega) (by omega) (by omega)) (fa _ (by omega) (by omega) (by omega) (by omega)), i6.fr (fun a h1 h2 => fa a (by omega) (by omega) (by omega) (by omega)) (fa _ (by omega) (by omega) (by omega) (by omega)) (fa _ (by omega) (by omega) (by omega) (by omega)) (fa _ (by omega) (by omega) (by omega) (by omega)) (fa _ (by omega) (by omega) (by omega) (by omega)), i7.fr (by rw [fa x (by omega) (by omega) (by omega) (by omega)]) (by rw [fa (x + 87) (by omega) (by omega) (by omega) (by omega)]) (fa _ (by omega) (by omega) (by omega) (by omega)) (fa _ (by omega) (by omega) (by omega) (by omega)), fun j hj => ?_⟩, by omega⟩
  · rw [e88]
    refine ⟨fun j hj => ?_, n1, n2, n3, hq.2.2.2.2.up n4 n5 (fa _ (by omega) (by omega) (by omega) (by omega)) (fun a h1 => fa a (by omega) (by omega) (by omega) (by omega))⟩
    rw [tv_c (m := m1) (fun a h1 h2 => fm2 a (by omega) (by omega) (by omega)) j (by omega)]
    exact p3 j hj
  · rw [e88, n5 j (by omega), fa (x + 89) (by omega) (by omega) (by omega) (by omega)]
    exact i8 j hj
