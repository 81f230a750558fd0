/-! the parsers side by side: an E in parens -/
theorem es_out {b : Nat → Int32} {len key f t pa no : Nat} {G : Gt} {C W : List Int32} {td : Nat → Int32} (h1 : G.2.2.1 = 0) : esR b len key (f + 1) (G, (C, t, W), td, pa + 1, no, false) = (false, (G, ((setF 0 C W).1, t, (setF 0 C W).2), td, pa + 1, no, false)) := by
  rw [esR, if_pos ⟨rfl, h1⟩, decide_eq_false (Nat.succ_ne_zero _)]
theorem sim_open {b : Nat → Int32} {len key fu f j : Nat} {P : Ps} {G : Gt} {W : List Int32} {td : Nat → Int32} (i0 : Sim b len key fu 0) (hmu : muP 5 P < fu + 1) (hE : En b len f P G (notsR j ++ W)) (hW : topR 5 W) (s1 : P.1.2.2 = 3) (v40 : G.2.2.2.1 = 40) : SimO b len key 5 j W td P f (opnF b len (par b len key fu 0) P) (enS P G (notsR j ++ W) td) := by
  have t3 : G.2.2.1 = 3 := (tr_tok hE.1.1 (by decide) (by decide)).mpr s1
  unfold opnF
  by_cases d : 8 ≤ P.2.1.1
  · rw [if_pos d]
    refine sim_bad hE (fun g => absurd (v40.symm.trans g.2.1) (by decide)) (fun g => by have := g.2.2; omega) (fun g => ?_)
    have := tp_tok g
    omega
  · rw [if_neg d]
    obtain ⟨g, rfl⟩ := en_f hE
    obtain ⟨e1, e2, e3, e4, e5⟩ := hE
    obtain ⟨a1, a2⟩ := sr_adv e1 e2 (by omega) (by omega)
    have cn : cntN (-11 :: (notsR j ++ W)) = P.2.1.2.1 := by rw [cntN, if_neg (by decide), e3, Nat.zero_add]
    have hE1 : En b len g (adv b len (opU P (P.2.1.1 + 1))) (goS b len G) (notsR 0 ++ -11 :: (notsR j ++ W)) := by
      refine ⟨sr_of (P := adv b len P) rfl a1, pb_adv (pb_op e2 (by omega)), cn.symm, ?_, by omega⟩
      show P.2.2.length + ((notsR j ++ W).length + 1) ≤ _
      omega
    have hst : esR b len key (g + 1) (enS P G (notsR j ++ W) td) = esR b len key g (enS (adv b len (opU P (P.2.1.1 + 1))) (goS b len G) (notsR 0 ++ -11 :: (notsR j ++ W)) (upd td (P.2.1.1 + 1) 0)) := by
      refine (es_open t3 v40 (by omega)).trans ?_
      rw [cn]
      rfl
    have hm : muP 0 (adv b len (opU P (P.2.1.1 + 1))) < fu := by
      show (5 - 0) + 7 * (8 - (P.2.1.1 + 1)) + (8 - P.2.1.2.1) < fu
      unfold muP at hmu
      omega
    have ih := i0 _ _ (-11 :: (notsR j ++ W)) 0 (upd td (P.2.1.1 + 1) 0) g hm hE1 (fun _ => rfl) (fun w V h => Or.inl (by cases h; rfl)) (fun _ => by show upd td (P.2.1.1 + 1) 0 (P.2.1.1 + 1) = 0; simp [upd])
    have k1 : (adv b len (opU P (P.2.1.1 + 1))).2.1.1 = P.2.1.1 + 1 := rfl
    have k2 : (adv b len (opU P (P.2.1.1 + 1))).2.1.2.1 = P.2.1.2.1 := rfl
    generalize adv b len (opU P (P.2.1.1 + 1)) = P1 at ih hst k1 k2
    generalize par b len key fu 0 P1 = R at ih
    obtain ⟨r1, r2⟩ := R
    rcases ih with ⟨q0, s', q1, q2⟩ | ⟨q0, f', G', C, V, te, q1, ⟨x1, x2, x3⟩, x4, x5, ⟨x6, x7⟩, ⟨x8, x9⟩, x10⟩
    · dsimp only at q0 q2
      subst q0
      rw [if_neg (fun g => Bool.noConfusion g.1)]
      exact Or.inl ⟨rfl, s', hst.trans q1, q2⟩
    · dsimp only at q0 q1 x1 x2 x3 x4 x10
      subst q0
      rw [k1] at q1 x8 x10
      have gb := x1.2.2.2.1
      obtain ⟨g', rfl⟩ : ∃ g', f' = g' + 1 := ⟨f' - 1, by have := gb.1; have := gb.2.1; omega⟩
      have td1 : ∀ k, k < P.2.1.1 + 1 → te k = td k := fun k hk => (x8 k hk).trans (by simp only [upd]; rw [if_neg (by omega)])
      by_cases c : sgn b len r2 = 41
      · rw [if_pos ⟨rfl, c⟩]
        rcases tr_sgn x1.1 (sr_lt x1) with ⟨y1, y2, y3, y4⟩ | ⟨y1, y2, y3⟩
        · obtain ⟨b1, b2⟩ := sr_adv x1 x2 (by omega) (by omega)
          have hS : SR b len (adv b len (opU r2 (r2.2.1.1 - 1))) (goS b len G') := sr_of (P := adv b len r2) rfl b1
          have hop : r2.2.1.1 = P.2.1.1 + 1 := x3.1.trans k1
          rw [List.length_cons, List.length_append, nots_len] at x6
          have ho8 : r2.2.1.1 - 1 ≤ 8 := by omega
          refine Or.inr ⟨rfl, g', goS b len G', C ++ V ++ notsR j, [], te, (hst.trans q1).trans (es_close y2 (by rw [y4, ← y3, c]) (by omega) (fun w hw => (x5 w hw).2.1) hW), ⟨hS, pb_adv (pb_op x2 ho8), ?_, ?_⟩, ?_, (fun w hw => (nomatch hw)), ⟨?_, by omega⟩, ⟨fun k hk => td1 k (by omega), fun _ => by rw [td1 _ (by omega)]⟩, ?_⟩
          · show r2.2.1.1 - 1 = P.2.1.1
            omega
          · exact x3.2.trans k2
          · show _ = r2.2.2.map enc ++ notsR j
            rw [List.append_nil, x4]
            simp [notsR]
          · simp only [List.length_append, List.length_nil, nots_len]
            omega
          · rcases sg_any hS with q | ⟨q, z1, z2⟩
            · exact Or.inl q
            · exact Or.inr (Or.inl ⟨q, z1, z2⟩)
        · exact absurd (y3.symm.trans c) (by decide)
      · rw [if_neg (fun g => c g.2)]
        by_cases z : G'.2.2.1 = 0
        · have hz := (hst.trans q1).trans (es_out z)
          exact Or.inl ⟨rfl, _, hz, x1.1.1.symm⟩
        · refine Or.inl ⟨rfl, _, (hst.trans q1).trans (es_stop z (fun y => ?_) ?_), x1.1.1.symm⟩
          · rcases tr_sgn x1.1 (sr_lt x1) with ⟨y1, y2, y3, y4⟩ | ⟨y1, y2, y3⟩
            · exact c (by rw [y3, ← y4]; exact y.2.1)
            · exact y2 y.1
          · rcases tr_sg x1.1 (sr_lt x1) gb.2.2.1 with y | ⟨_, _, _, _, y1, q, y2, y3⟩
            · exact Or.inl y.1
            · rcases x10 with w | ⟨q', w, _⟩ | ⟨_, w1, w2⟩
              · rw [w] at y3
                have hn : ∀ q, q < 5 → ¬ (-1 : Int32) = nI q := by decide
                exact absurd y3 (hn q y2)
              · omega
              · exact Or.inr ⟨by rw [y1, w1]; decide, w2⟩
