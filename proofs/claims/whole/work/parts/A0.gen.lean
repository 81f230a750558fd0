/-! steps in general -/
def SgX (x : Nat) (S S' : Sg) : Prop := S.1 ≤ S'.1 ∧ (∀ i c z, Kd S i c z → Kd S' i c z) ∧ ∀ a, a < S.1 → a ≠ x + 5 → a ≠ x + 22 → a ≠ x + 39 → S'.2.2 a = S.2.2 a
theorem SgX.rf (x : Nat) (S : Sg) : SgX x S S := ⟨Nat.le_refl _, fun _ _ _ h => h, fun _ _ _ _ _ => rfl⟩
theorem SgX.cp {x t u k : Nat} (S : Sg) (ht : t + 4 = x + 5 ∨ t + 4 = x + 22 ∨ t + 4 = x + 39) : SgX x S (cpS S t u k) := ⟨Nat.le_refl _, fun _ _ _ h => h, fun a _ h1 h2 h3 => by funext j; simp only [cpR]; rw [if_neg (fun z => by have := z.1; omega)]⟩
theorem SgX.tw {x t : Nat} {S S' : Sg} (h : SgX x S S') (h0 : t ≠ x + 5 ∧ t ≠ x + 22 ∧ t ≠ x + 39) (h3 : t + 3 ≠ x + 5 ∧ t + 3 ≠ x + 22 ∧ t + 3 ≠ x + 39) (k : TwA S t) : TwA S' t := by
  obtain ⟨k0, ⟨a1, b1⟩, ⟨a2, b2⟩, ⟨a3, b3⟩, ⟨a4, b4⟩, ⟨a5, b5⟩, ⟨a6, b6⟩, ⟨a7, b7⟩, ⟨a8, b8⟩, a9⟩ := k
  have e0 := h.2.2 t k0.1 h0.1 h0.2.1 h0.2.2
  have e3 := h.2.2 (t + 3) b3.1 h3.1 h3.2.1 h3.2.2
  have kd := h.2.1
  exact ⟨kd _ _ _ k0, ⟨by rw [e0]; exact a1, kd _ _ _ b1⟩, ⟨by rw [e0]; exact a2, kd _ _ _ b2⟩, ⟨by rw [e0]; exact a3, kd _ _ _ b3⟩, ⟨by rw [e0]; exact a4, kd _ _ _ b4⟩, ⟨by rw [e0]; exact a5, kd _ _ _ b5⟩, ⟨by rw [e0]; exact a6, kd _ _ _ b6⟩, ⟨by rw [e0]; exact a7, kd _ _ _ b7⟩, ⟨by rw [e0]; exact a8, kd _ _ _ b8⟩, fun i hi => ⟨by rw [e3]; exact (a9 i hi).1, kd _ _ _ (a9 i hi).2⟩⟩
theorem SgX.sh {x q : Nat} {S S' : Sg} (h : SgX x S S') (hq : x + 40 ≤ q) (k : ShA S q) : ShA S' q := ⟨h.2.1 _ _ _ k.1, by rw [h.2.2 q k.1.1 (by omega) (by omega) (by omega)]; exact k.2.1, h.2.1 _ _ _ k.2.2⟩
theorem SgX.as {x : Nat} {S S' : Sg} (h : SgX x S S') (k : AsA S x) : AsA S' x := by
  obtain ⟨k0, ⟨a1, b1⟩, ⟨a2, b2⟩, ⟨a3, b3⟩, ⟨a4, b4⟩, ⟨a5, b5⟩, ⟨a6, b6⟩, ⟨a7, b7⟩, ⟨a8, b8⟩, a9, a10⟩ := k
  have e0 := h.2.2 x k0.1 (by omega) (by omega) (by omega)
  have kd := h.2.1
  have er : ∀ q, x + 40 ≤ q → q < S.1 → S'.2.2 q = S.2.2 q := fun q h1 h2 => h.2.2 q h2 (by omega) (by omega) (by omega)
  refine ⟨kd _ _ _ k0, ⟨by rw [e0]; exact a1, h.tw (by omega) (by omega) b1⟩, ⟨by rw [e0]; exact a2, h.tw (by omega) (by omega) b2⟩, ⟨by rw [e0]; exact a3, h.tw (by omega) (by omega) b3⟩, ⟨by rw [e0]; exact a4, ?_⟩, ⟨by rw [e0]; exact a5, kd _ _ _ b5⟩, ⟨by rw [e0]; exact a6, kd _ _ _ b6⟩, ⟨by rw [e0]; exact a7, kd _ _ _ b7⟩, ⟨by rw [e0]; exact a8, kd _ _ _ b8⟩, fun i hi => ⟨by rw [er (x + 55) (by omega) b5.1]; exact (a9 i hi).1, h.sh (by omega) (a9 i hi).2⟩, fun i hi => ⟨by rw [er (x + 56) (by omega) b6.1]; exact (a10 i hi).1, ?_⟩⟩
  · exact ⟨kd _ _ _ b4.1, ⟨by rw [er _ (by omega) b4.1.1]; exact b4.2.1.1, kd _ _ _ b4.2.1.2⟩, by rw [er _ (by omega) b4.1.1]; exact b4.2.2.1, kd _ _ _ b4.2.2.2⟩
  · have s := (a10 i hi).2
    exact ⟨kd _ _ _ s.1, ⟨by rw [er _ (by omega) s.1.1]; exact s.2.1.1, kd _ _ _ s.2.1.2⟩, by rw [er _ (by omega) s.1.1]; exact s.2.2.1, h.sh (by omega) s.2.2.2⟩
theorem SgX.md {x : Nat} {S S' : Sg} (h : SgX x S S') (k : MdA S (x + 87)) : MdA S' (x + 87) := by
  have e0 := h.2.2 (x + 87) k.1.1 (by omega) (by omega) (by omega)
  have kd := h.2.1
  unfold MdA at k ⊢
  rw [e0]
  obtain ⟨k0, ⟨a1, b1⟩, ⟨a2, b2⟩, ⟨a3, b3⟩, ⟨a4, b4⟩, ⟨a5, b5⟩, ⟨a6, b6⟩, ⟨a7, b7⟩, ⟨a8, b8⟩, ⟨a9, b9⟩, ⟨a10, b10⟩, ⟨a11, b11⟩, ⟨a12, b12⟩, ⟨a13, b13⟩, ⟨a14, b14⟩, ⟨a15, b15⟩, ⟨a16, b16⟩, ⟨a17, b17⟩, ⟨a18, b18⟩, ⟨a19, b19⟩, ⟨a20, b20⟩, ⟨a21, b21⟩, ⟨a22, b22⟩⟩ := k
  exact ⟨kd _ _ _ k0, ⟨a1, kd _ _ _ b1⟩, ⟨a2, kd _ _ _ b2⟩, ⟨a3, kd _ _ _ b3⟩, ⟨a4, kd _ _ _ b4⟩, ⟨a5, kd _ _ _ b5⟩, ⟨a6, kd _ _ _ b6⟩, ⟨a7, kd _ _ _ b7⟩, ⟨a8, kd _ _ _ b8⟩, ⟨a9, kd _ _ _ b9⟩, ⟨a10, kd _ _ _ b10⟩, ⟨a11, kd _ _ _ b11⟩, ⟨a12, kd _ _ _ b12⟩, ⟨a13, kd _ _ _ b13⟩, ⟨a14, kd _ _ _ b14⟩, ⟨a15, kd _ _ _ b15⟩, ⟨a16, kd _ _ _ b16⟩, ⟨a17, kd _ _ _ b17⟩, ⟨a18, kd _ _ _ b18⟩, ⟨a19, kd _ _ _ b19⟩, ⟨a20, kd _ _ _ b20⟩, ⟨a21, kd _ _ _ b21⟩, ⟨a22, kd _ _ _ b22⟩⟩
theorem SgX.iv {x : Nat} {S S' : Sg} (h : SgX x S S') (k : IvS S x) : IvS S' x := ⟨h.as k.1, h.md k.2.1, Nat.le_trans k.2.2 h.1⟩
theorem SgX.tx {x t c : Nat} {S S' : Sg} {m : Mem} {A : Nat → Int32} (h : SgX x S S') (ht : S'.2.2 (t + 4) = S.2.2 (t + 4)) (k : TxI (x + 110) S m t A c) : TxI (x + 110) S' m t A c := by
  obtain ⟨h1, h2, h3, h4, h5⟩ := k
  refine ⟨h1, h2, fun i hi p hp => h.2.1 _ _ _ (h3 i hi p (by rw [← ht]; exact hp)), fun i hi => ?_, h5⟩
  obtain ⟨p, key, l, hp, o1, o2, o3⟩ := h4 i hi
  exact ⟨p, key, l, hp, by rw [ht]; exact o1, ⟨h.2.1 _ _ _ o2.1, by rw [h.2.2 p o2.1.1 (by omega) (by omega) (by omega)]; exact o2.2.1, h.2.1 _ _ _ o2.2.2.1, o2.2.2.2⟩, o3⟩
theorem SgX.q {x t n hh c : Nat} {S S' : Sg} {m : Mem} {A : Nat → Int32} (h : SgX x S S') (ht : S'.2.2 (t + 4) = S.2.2 (t + 4)) (k : TwQ (x + 110) S m t A n hh c) : TwQ (x + 110) S' m t A n hh c := ⟨k.1, k.2.1, k.2.2.1, k.2.2.2.1, h.tx ht k.2.2.2.2⟩
theorem SgX.im {x : Nat} {S S' : Sg} {m : Mem} (h : SgX x S S') (ht : S'.2.2 (x + 39) = S.2.2 (x + 39)) (k : IvI S m x) : IvI S' m x := by
  refine ⟨k.1, ?_⟩
  rcases k.2 with g | ⟨g, n, hh, c, q⟩
  · exact Or.inl g
  · exact Or.inr ⟨g, n, hh, c, h.q ht q⟩
theorem cp_row {S : Sg} {t u k w : Nat} (h : w ≠ t + 4) : (cpS S t u k).2.2 w = S.2.2 w := by
  funext j
  simp only [cpR]
  rw [if_neg (fun z => h z.1)]
/-- the class's end, in general -/
def CE (S : Sg) (m : Mem) (x : Nat) (q : Sp) : Pt3 := fun r S1 m1 => r = some (.int q.1) ∧ (S1 = S ∨ ∃ u, S1 = cpS S (x + 18) u 14) ∧ eqOn (26 + 5 * q.2.2) (tv m1 (x + 1)) q.2.1 ∧ ∀ a, (a < x + 1 ∨ x + 35 ≤ a ∨ a = x + 6) → a ≠ x + 58 → m1 a = m a
/-- the model's -/
def ME (S1 : Sg) (m1 : Mem) (x : Nat) (q : Sp) : Pt3 := fun r S2 m2 => r = some (.int q.1) ∧ S2 = S1 ∧ m2 (x + 88) = q.2.1 ∧ ∀ a, a ≠ x + 88 → (a < x + 90 ∨ x + 93 ≤ a) → a ≠ x + 99 → a ≠ x + 100 → m2 a = m1 a
theorem stp_gen {d6 d7 n h c : Nat} {f6 f7 : Fr} {X : Xb} {As : List Value} {S : Sg} {m : Mem} {x : Nat} {q : Sp} (hI : Inv S m x) (hq : TwQ (x + 110) S m (x + 1) (m (x + 88)) n h c) (hN : NewR (m (x + 88)) q) (h6 : Ok d6 0 0 f6 X (rf X x :: As) S m (CE S m x q)) (h7 : ∀ S1 m1, MdA S1 (x + 87) → (∀ a, x + 59 ≤ a → m1 a = m a) → Ok d7 0 0 f7 X (rf X (x + 87) :: As) S1 m1 (ME S1 m1 x q)) : CStep d6 0 0 d7 f6 f7 X As S m x := by
  obtain ⟨i1, i2, i3, i4, i5, i6, i7, i8⟩ := hI
  refine h6.post (fun r S1 m1 hp => ?_)
  obtain ⟨p1, p2, p3, fm⟩ := hp
  have sx : SgX x S S1 ∧ S1.2.2 (x + 5) = S.2.2 (x + 5) ∧ S1.2.2 (x + 39) = S.2.2 (x + 39) ∧ S1.1 = S.1 := by
    rcases p2 with rfl | ⟨u, rfl⟩
    · exact ⟨SgX.rf _ _, rfl, rfl, rfl⟩
    · exact ⟨SgX.cp S (by omega), cp_row (by omega), cp_row (by omega), rfl⟩
  obtain ⟨sx, sx5, sx39, sx1⟩ := sx
  have i1' := sx.iv i1
  refine ⟨q.1, p1, i1'.1.1, i1'.2.1.1, (h7 S1 m1 i1'.2.1 (fun a ha => fm a (by omega) (by omega))).post (fun r2 S2 m2 hp2 => ?_)⟩
  obtain ⟨r1, rfl, e88, fm2⟩ := hp2
  have fa : ∀ a, (a < x + 1 ∨ x + 35 ≤ a ∨ a = x + 6) → a ≠ x + 58 → a ≠ x + 88 → (a < x + 90 ∨ x + 93 ≤ a) → a ≠ x + 99 → a ≠ x + 100 → m2 a = m a := fun a ha h0 h1 h2 h3 h4 => (fm2 a h1 h2 h3 h4).trans (fm a ha h0)
  obtain ⟨n1, ⟨h', n2, n3⟩, n4, n5⟩ := hN
  have n8 := n2.1
  have fb : ∀ a, (a < x + 1 ∨ x + 35 ≤ a ∨ a = x + 6) ∧ a ≠ x + 58 ∧ a ≠ x + 88 ∧ (a < x + 90 ∨ x + 93 ≤ a) ∧ a ≠ x + 99 ∧ a ≠ x + 100 → m2 a = m a := fun a g => fa a g.1 g.2.1 g.2.2.1 g.2.2.2.1 g.2.2.2.2.1 g.2.2.2.2.2
  refine ⟨r1, ⟨i1', ⟨q.2.2, h', c, ?_⟩, (sx.im sx39 i3).fr (by rw [fb x (by omega)]) (by rw [fb (x + 87) (by omega)]) (fb _ (by omega)) (fun a h1 h2 => fb a (by omega)) (fun a h1 => fb a (by omega)), i4.fr (fb _ (by omega)) (fb _ (by omega)) (by rw [fb (x + 87) (by omega)]) (fb _ (by omega)) (fb _ (by omega)) (fb _ (by omega)), i5.fr (fun a h1 h2 => fb a (by omega)) (fb _ (by omega)) (fb _ (by omega)) (fb _ (by omega)), i6.fr (fun a h1 h2 => fb a (by omega)) (fb _ (by omega)) (fb _ (by omega)) (fb _ (by omega)) (fb _ (by omega)), i7.fr (by rw [fb x (by omega)]) (by rw [fb (x + 87) (by omega)]) (fb _ (by omega)) (fb _ (by omega)), fun j hj => ?_⟩, by omega⟩
  · rw [e88]
    refine ⟨fun j hj => ?_, n1, n2, n3, (sx.tx (t := x + 1) sx5 hq.2.2.2.2).up n4 n5 (fb (x + 1 + 5) (by omega)) (fun a h1 => fb a (by omega))⟩
    rw [tv_c (m := m1) (fun a h1 h2 => fm2 a (by omega) (by omega) (by omega) (by omega)) j (by omega)]
    exact p3 j hj
  · rw [e88, n5 j (by omega), fb (x + 89) (by omega)]
    exact i8 j hj
theorem PS.ce {S S1 : Sg} {m m1 : Mem} {x : Nat} {q : Sp} {r : Option Value} (h : PS S m x q r S1 m1) : CE S m x q r S1 m1 := ⟨h.1, Or.inl h.2.1, h.2.2.1, fun a h1 _ => h.2.2.2 a (by omega)⟩
theorem PT.ce {S S1 : Sg} {m m1 : Mem} {x n : Nat} {A : Nat → Int32} {v : Int32} {r : Option Value} (n8 : n ≤ 8) (hA : eqOn (26 + 5 * n) (tv m (x + 1)) A) (h : PT S m x v r S1 m1) : CE S m x (v, A, n) r S1 m1 := by
  refine ⟨h.1, h.2.1.elim Or.inl (fun e => Or.inr ⟨x + 1, e⟩), fun j hj => ?_, fun a h1 _ => h.2.2 a (by omega)⟩
  dsimp only at hj
  rw [tv_c (m := m) (fun a h1 h2 => h.2.2 a (by omega)) j (by omega)]
  exact hA j hj
theorem PL.ce {S S1 : Sg} {m m1 : Mem} {x n : Nat} {A : Nat → Int32} {v : Int32} {r : Option Value} (n8 : n ≤ 8) (hA : eqOn (26 + 5 * n) (tv m (x + 1)) A) (h : PL S m x v r S1 m1) : CE S m x (v, A, n) r S1 m1 := by
  refine ⟨h.1, h.2.1.elim Or.inl (fun e => Or.inr ⟨x + 1, e⟩), fun j hj => ?_, fun a h1 h2 => h.2.2 a (by omega) h2⟩
  dsimp only at hj
  rw [tv_c (m := m) (fun a h1 h2 => h.2.2 a (by omega) (by omega)) j (by omega)]
  exact hA j hj
theorem PM.me {S S1 : Sg} {m m1 : Mem} {x : Nat} {q : Sp} {r : Option Value} (h : PM S m (x + 87) q r S1 m1) : ME S m x q r S1 m1 := ⟨h.1, h.2.1, h.2.2.1, fun a h1 h2 h3 h4 => h.2.2.2 a (by omega) (by omega) (by omega)⟩
theorem PK.me {S S1 : Sg} {m m1 : Mem} {x n : Nat} {A : Nat → Int32} {v : Int32} {r : Option Value} (hA : m (x + 88) = A) (h : PK S m (x + 87) v r S1 m1) : ME S m x (v, A, n) r S1 m1 := ⟨h.1, h.2.1, (h.2.2.1).trans hA, fun a h1 h2 h3 h4 => h.2.2.2 a (by omega) (by omega) (by omega) (by omega)⟩
