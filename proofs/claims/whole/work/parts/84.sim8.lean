/-! the parsers side by side: the tape goes on, never back -/
def rdMn (b : Nat → Int32) (len : Nat) (rd : Ps → Bool × Ps) : Prop := ∀ P, Pb len P → tkW b len P → P.1.1 ≤ (rd P).2.1.1
theorem adv_ge {b : Nat → Int32} {len : Nat} {P : Ps} (h : Pb len P) : P.1.1 ≤ (adv b len P).1.1 := by
  have g1 := skB_le (b := b) (len := len) (len - P.1.2.1) P.1.2.1 h.2.1
  have h1 := h.1
  unfold adv
  dsimp only
  generalize skB b len (len - P.1.2.1) P.1.2.1 = bg at g1
  unfold advS
  split
  · dsimp only; omega
  · split
    · dsimp only; omega
    · dsimp only; omega
theorem jl_mn {b : Nat → Int32} {len r : Nat} {rd : Ps → Bool × Ps} (ho : rdOk b len rd) (hrd : rdMn b len rd) : ∀ c, rdMn b len (jlF rd b len r c)
  | 0 => fun P h1 h2 => Nat.le_refl _
  | c + 1 => fun P h1 h2 => by
    have g0 := adv_ge (b := b) h1
    have g1 := hrd (adv b len P) (pb_adv h1) (tkW_adv b len P)
    have g2 := ho (adv b len P) (pb_adv h1) (tkW_adv b len P)
    simp only [jlF]
    split
    · split
      · have k := jl_mn (r := r) ho hrd c (adP (rd (adv b len P)).2 (-(sgn b len P))) (pb_adP g2.1) g2.2.1
        exact Nat.le_trans (Nat.le_trans g0 g1) k
      · exact Nat.le_trans g0 g1
    · exact Nat.le_refl _
theorem not_mn {b : Nat → Int32} {len : Nat} {rd : Ps → Bool × Ps} (hrd : rdMn b len rd) : rdMn b len (notF b len rd) := by
  intro P h1 h2
  unfold notF
  split
  · exact Nat.le_refl _
  · have p1 : Pb len (ntU P (P.2.1.2.1 + 1)) := pb_nt h1 (by omega)
    have g0 := adv_ge (b := b) p1
    have g1 := hrd (adv b len (ntU P (P.2.1.2.1 + 1))) (pb_adv p1) (tkW_adv b len _)
    split
    · exact Nat.le_trans g0 g1
    · exact Nat.le_trans g0 g1
theorem opn_mn {b : Nat → Int32} {len : Nat} {rd : Ps → Bool × Ps} (ho : rdOk b len rd) (hrd : rdMn b len rd) : rdMn b len (opnF b len rd) := by
  intro P h1 h2
  unfold opnF
  split
  · exact Nat.le_refl _
  · have p1 : Pb len (opU P (P.2.1.1 + 1)) := pb_op h1 (by omega)
    have g0 := adv_ge (b := b) p1
    have g1 := hrd (adv b len (opU P (P.2.1.1 + 1))) (pb_adv p1) (tkW_adv b len _)
    have g2 := ho (adv b len (opU P (P.2.1.1 + 1))) (pb_adv p1) (tkW_adv b len _)
    split
    · have p2 : Pb len (opU (rd (adv b len (opU P (P.2.1.1 + 1)))).2 ((rd (adv b len (opU P (P.2.1.1 + 1)))).2.2.1.1 - 1)) := pb_op g2.1 (by have := g2.1.2.2.2.1; omega)
      have g3 := adv_ge (b := b) p2
      exact Nat.le_trans (Nat.le_trans g0 g1) g3
    · exact Nat.le_trans g0 g1
theorem leaf_ge {b : Nat → Int32} {len : Nat} {P : Ps} {v : Int32} (h : Pb len P) : P.1.1 ≤ (leafP b len P v).1.1 := adv_ge (b := b) h
theorem piece_mn {b : Nat → Int32} {len key : Nat} {rdE rdP : Ps → Bool × Ps} (oE : rdOk b len rdE) (hE : rdMn b len rdE) (hP : rdMn b len rdP) : rdMn b len (pieceF b len key rdE rdP) := by
  intro P h1 h2
  unfold pieceF
  split
  · split
    · exact leaf_ge h1
    · exact Nat.le_refl _
  · split
    · split
      · exact Nat.le_refl _
      · exact leaf_ge h1
    · split
      · exact not_mn hP P h1 h2
      · split
        · exact opn_mn oE hE P h1 h2
        · exact Nat.le_refl _
theorem par_mn {b : Nat → Int32} {len key : Nat} : ∀ f r, rdMn b len (par b len key f r)
  | 0, r => fun P h1 h2 => Nat.le_refl _
  | f + 1, r => fun P h1 h2 => by
    simp only [par]
    split
    · have g := par_ok (b := b) (len := len) (key := key) f (r + 1) P h1 h2
      have g0 := par_mn (b := b) (len := len) (key := key) f (r + 1) P h1 h2
      split
      · exact Nat.le_trans g0 (jl_mn (r := r) (par_ok (key := key) f (r + 1)) (par_mn f (r + 1)) (mostN r) _ g.1 g.2.1)
      · exact g0
    · exact piece_mn (par_ok f 0) (par_mn f 0) (par_mn f 5) P h1 h2
/-! the parsers side by side: a rank's signs -/
theorem top_up {r : Nat} {W : List Int32} (hr : r < 5) (h : topR r W) : topR (r + 1) W := by
  intro w V e
  rcases h w V e with g | g
  · exact Or.inl g
  · exact Or.inr (Int32.lt_trans g ((nI_ltI (by omega) (by omega)).mpr (by omega)))
def JI (b : Nat → Int32) (len r : Nat) (W : List Int32) (td : Nat → Int32) (P : Ps) (c : Nat) (Q : Ps) (f : Nat) (G : Gt) (C V : List Int32) (te : Nat → Int32) : Prop :=
  (SR b len Q G ∧ Pb len Q ∧ kp P Q) ∧ C ++ V = Q.2.2.map enc ∧ (∀ w, w ∈ V → ¬ w = -10 ∧ ¬ w = -11 ∧ ¬ rkM w < nI (r + 1)) ∧ (C.length + V.length + W.length ≤ G.2.1 ∧ len < G.2.1 + f) ∧ ((∀ k, k < P.2.1.1 → te k = td k) ∧ (2 < r → (te P.2.1.1 = 0 ↔ td P.2.1.1 = 0))) ∧ (rnkI (sgn b len Q) = -1 ∨ (∃ q, q < r + 1 ∧ rnkI (sgn b len Q) = nI q) ∨ (r + 1 ≤ 2 ∧ rnkI (sgn b len Q) = 2 ∧ ¬ te P.2.1.1 = 0)) ∧ ((r = 2 ∧ ((c = 1 ∧ te P.2.1.1 = 0) ∨ (c = 0 ∧ ¬ te P.2.1.1 = 0))) ∨ (r ≠ 2 ∧ len ≤ G.2.1 + c))
theorem jl_end {b : Nat → Int32} {len key r c f : Nat} {P Q : Ps} {G : Gt} {W C V : List Int32} {td te : Nat → Int32} (h : JI b len r W td P c Q f G C V te) (hn : c = 0 ∨ ¬ rnkI (sgn b len Q) = nI r) : SimO b len key r 0 W td P f (true, Q) (G, (C, Q.2.1.2.2, V ++ W), te, P.2.1.1, cntN W, false) := by
  obtain ⟨⟨x1, x2, x3⟩, x4, x5, x6, x7, x8, x9⟩ := h
  refine Or.inr ⟨rfl, f, G, C, V, te, rfl, ⟨x1, x2, x3⟩, ?_, x5, x6, x7, ?_⟩
  · rw [x4]
    exact (List.append_nil _).symm
  · rcases x8 with y | ⟨q, y1, y2⟩ | ⟨y1, y2, y3⟩
    · exact Or.inl y
    · by_cases e : q = r
      · subst e
        rcases x9 with ⟨z1, z2 | z2⟩ | ⟨z1, z2⟩
        · rcases hn with h0 | h0
          · have := z2.1; omega
          · exact absurd y2 h0
        · exact Or.inr (Or.inr ⟨by omega, by rw [y2, z1]; rfl, z2.2⟩)
        · rcases hn with h0 | h0
          · have e1 := x1.1.1
            have e2 : sgn b len Q = -1 := by rw [sgn, if_neg (fun g => by have := g.2; omega)]
            rw [e2]
            exact Or.inl (by decide)
          · exact absurd y2 h0
      · exact Or.inr (Or.inl ⟨q, by omega, y2⟩)
    · exact Or.inr (Or.inr ⟨by omega, y2, y3⟩)
theorem simO_eq {b : Nat → Int32} {len key r j f g : Nat} {W : List Int32} {td : Nat → Int32} {P : Ps} {R : Bool × Ps} {s t : Es} (e : esR b len key f s = esR b len key g t) (h : SimO b len key r j W td P g R t) : SimO b len key r j W td P f R s := by
  rcases h with ⟨q0, s', q1, q2⟩ | ⟨q0, f', G', C, V, te, q1, q2⟩
  · exact Or.inl ⟨q0, s', e.trans q1, q2⟩
  · exact Or.inr ⟨q0, f', G', C, V, te, e.trans q1, q2⟩
