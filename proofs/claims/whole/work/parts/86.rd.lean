/-! the parsers side by side: a whole text -/
theorem rd_out {b : Nat → Int32} {len : Nat} {Q : Ps} {G : Gt} {te : Nat → Int32} (x1 : SR b len Q G) (x10 : rnkI (sgn b len Q) = -1 ∨ (∃ q, q < 0 ∧ rnkI (sgn b len Q) = nI q) ∨ (0 ≤ 2 ∧ rnkI (sgn b len Q) = 2 ∧ ¬ te 0 = 0)) : sgM (nI G.2.2.1) G.2.2.2.1 = 0 ∨ (rkM (sgM (nI G.2.2.1) G.2.2.2.1) = 3 ∧ ¬ te 0 = 0) := by
  rcases tr_sg x1.1 (sr_lt x1) x1.2.2.2.1.2.2.1 with y | ⟨_, _, _, _, y1, q, y2, y3⟩
  · exact Or.inl y.1
  · rcases x10 with w | ⟨q', w, _⟩ | ⟨_, w1, w2⟩
    · rw [w] at y3
      have hn : ∀ q, q < 5 → ¬ (-1 : Int32) = nI q := by decide
      exact absurd y3 (hn q y2)
    · omega
    · exact Or.inr ⟨by rw [y1, w1]; decide, w2⟩
theorem rd_eq {b : Nat → Int32} {len : Nat} (hl : len ≤ 96) (v0 : Int32) (td : Nat → Int32) : (∃ ft, rdT b len = .inl ft ∧ rdM b len v0 td = .inl ft) ∨ (∃ key P, rdT b len = .inr (key, P) ∧ rdM b len v0 td = .inr (key, P.2.2.map enc, P.2.1.2.2)) := by
  have hp0 : Pb len Ps0 := ⟨Nat.le_refl 0, Nat.zero_le len, Nat.zero_le 4, Nat.zero_le 8, Nat.zero_le 8, Nat.zero_le 96, hl⟩
  have hn1 : ∀ p, p ≤ 96 → ¬ nI p = (-1 : Int32) := fun p hp g => nI_pos (by omega) (g ▸ (by decide : (-1 : Int32) < 0))
  have g0 := adv_go (b := b) (len := len) (P := Ps0) (G := (0, 0, 0, v0, -1)) (Nat.zero_le len) hl rfl (Or.inr ⟨rfl, fun p _ hp => hn1 p hp⟩)
  have gb := gb_go (b := b) (len := len) (G := (0, 0, 0, v0, -1)) (Nat.zero_le len) hl
  have s0 : SR b len (adv b len Ps0) (goS b len (0, 0, 0, v0, -1)) := ⟨g0.1, tkW_adv b len _, tkD_adv _, gb.1, g0.2⟩
  have p0 : Pb len (adv b len Ps0) := pb_adv hp0
  have e2 : (adv b len Ps0).2 = Ps0.2 := rfl
  unfold rdT rdM
  rw [tr_key s0.1]
  generalize goS b len (0, 0, 0, v0, -1) = G0 at s0
  generalize adv b len Ps0 = P0 at s0 p0 e2
  by_cases c : keyH b P0 < 0
  · rw [if_pos c, if_pos c]
    exact Or.inl ⟨_, rfl, by rw [s0.1.1]⟩
  · rw [if_neg c, if_neg c]
    have so : P0.1.2.2 = 1 := by
      have h1 : ∀ i, ¬ P0.1.2.2 = 1 → ¬ hrB b P0 i = true := fun i g q => by
        unfold hrB at q
        rw [if_neg (fun z => g z.1)] at q
        cases q
      by_cases g : P0.1.2.2 = 1
      · exact g
      · exfalso
        apply c
        unfold keyH
        rw [if_neg (h1 0 g), if_neg (h1 1 g), if_neg (h1 2 g)]
        decide
    obtain ⟨k, k3, ek⟩ := keyH_in c
    have hk : (keyH b P0).toNatClampNeg = k := by rw [ek]; exact nI_clamp (by omega)
    rw [hk]
    obtain ⟨a1, a2⟩ := sr_adv s0 p0 (by omega) (by omega)
    have p1 : Pb len (adv b len P0) := pb_adv p0
    have e3 : (adv b len P0).2 = Ps0.2 := e2
    generalize goS b len G0 = G1 at a1
    generalize adv b len P0 = P1 at a1 p1 e3
    have hop : P1.2.1.1 = 0 := by rw [e3]; rfl
    have hno : P1.2.1.2.1 = 0 := by rw [e3]; rfl
    have hst : P1.2.2 = [] := by rw [e3]; rfl
    have hlv : P1.2.1.2.2 = 0 := by rw [e3]; rfl
    have hmu : muP 0 P1 < 70 := by unfold muP; rw [hop, hno]; decide
    have hE : En b len 97 P1 G1 (notsR 0 ++ []) := ⟨a1, p1, hno, by rw [hst]; exact Nat.zero_le _, by omega⟩
    have hs := sim_all (b := b) (len := len) k3 70 0 (by omega) P1 G1 [] 0 (upd td 0 0) 97 hmu hE (fun _ => rfl) (fun w V g => by cases g) (fun _ => by rw [hop]; simp [upd])
    have es : enS P1 G1 (notsR 0 ++ []) (upd td 0 0) = (G1, ([], 0, []), upd td 0 0, 0, 0, true) := by
      unfold enS
      rw [hop, hno, hst, hlv]
      rfl
    rw [es] at hs
    generalize par b len k 70 0 P1 = R at hs
    obtain ⟨r1, r2⟩ := R
    rcases hs with ⟨q0, s', q1, q2⟩ | ⟨q0, f', G', C', V', te', q1, ⟨w1, w2, w3⟩, w4, w5, ⟨w6, w6'⟩, ⟨w7, w7'⟩, w8⟩
    · dsimp only at q0 q2
      subst q0
      rw [q1, if_neg (fun g => Bool.noConfusion g.1), if_neg (fun g => Bool.noConfusion g)]
      exact Or.inl ⟨_, rfl, by rw [q2]⟩
    · dsimp only at q0 q1 w1 w2 w3 w4 w8
      subst q0
      rw [hop] at q1 w8
      have gb' := w1.2.2.2.1
      obtain ⟨g', rfl⟩ : ∃ g', f' = g' + 1 := ⟨f' - 1, by have := gb'.1; have := gb'.2.1; omega⟩
      by_cases z : r2.1.2.2 = 0
      · have zG : G'.2.2.1 = 0 := (tr_tok w1.1 (by decide) (by decide)).mpr z
        have he := q1.trans (es_end zG (by rw [List.append_nil]; exact fun w hw => (w5 w hw).2.1))
        rw [decide_eq_true (rfl : (0 : Nat) = 0)] at he
        rw [he, if_pos ⟨rfl, z⟩]
        simp only [if_true]
        refine Or.inr ⟨k, r2, rfl, ?_⟩
        have w4' : C' ++ (V' ++ []) = r2.2.2.map enc := by rw [List.append_nil]; exact w4.trans (List.append_nil _)
        rw [← w4']
      · have zG : ¬ G'.2.2.1 = 0 := fun g => z ((tr_tok w1.1 (by decide) (by decide)).mp g)
        have he := q1.trans (es_stop zG (fun g => absurd g.2.2 (Nat.lt_irrefl 0)) (rd_out w1 w8))
        rw [he, if_neg (fun g => z g.2), if_neg (fun g => Bool.noConfusion g)]
        exact Or.inl ⟨_, rfl, by rw [w1.1.1]⟩
