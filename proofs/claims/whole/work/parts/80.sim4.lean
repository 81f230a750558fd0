/-! the parsers side by side: not -/
theorem sim_not {b : Nat → Int32} {len key fu f j : Nat} {P : Ps} {G : Gt} {W : List Int32} {td : Nat → Int32} (i5 : Sim b len key fu 5) (hmu : muP 5 P < fu + 1) (hE : En b len f P G (notsR j ++ W)) (hW : topR 5 W) (s1 : P.1.2.2 = 3) (v33 : G.2.2.2.1 = 33) : SimO b len key 5 j W td P f (notF b len (par b len key fu 5) P) (enS P G (notsR j ++ W) td) := by
  have t3 : G.2.2.1 = 3 := (tr_tok hE.1.1 (by decide) (by decide)).mpr s1
  unfold notF
  by_cases d : 8 ≤ P.2.1.2.1
  · rw [if_pos d]
    refine sim_bad hE (fun g => by have := g.2.2; omega) (fun g => absurd (v33.symm.trans g.2.1) (by decide)) (fun g => ?_)
    have := tp_tok g
    omega
  · rw [if_neg d]
    obtain ⟨g, rfl⟩ := en_f hE
    obtain ⟨e1, e2, e3, e4, e5⟩ := hE
    obtain ⟨a1, a2⟩ := sr_adv e1 e2 (by omega) (by omega)
    rw [List.length_append, nots_len] at e4
    rw [cntN_app, cntN_nots] at e3
    have cn : cntN (notsR (j + 1) ++ W) = P.2.1.2.1 + 1 := by rw [cntN_app, cntN_nots]; omega
    have hE1 : En b len g (adv b len (ntU P (P.2.1.2.1 + 1))) (goS b len G) (notsR (j + 1) ++ W) := by
      refine ⟨sr_of (P := adv b len P) rfl a1, pb_adv (pb_nt e2 (by omega)), cn.symm, ?_, by omega⟩
      rw [List.length_append, nots_len]
      show P.2.2.length + (j + 1 + W.length) ≤ _
      omega
    have hst : esR b len key (g + 1) (enS P G (notsR j ++ W) td) = esR b len key g (enS (adv b len (ntU P (P.2.1.2.1 + 1))) (goS b len G) (notsR (j + 1) ++ W) td) := by
      refine (es_not t3 v33 (by omega)).trans ?_
      rw [cn]
      rfl
    have hm : muP 5 (adv b len (ntU P (P.2.1.2.1 + 1))) < fu := by
      show (5 - 5) + 7 * (8 - P.2.1.1) + (8 - (P.2.1.2.1 + 1)) < fu
      unfold muP at hmu
      omega
    have ih := i5 _ _ W (j + 1) td g hm hE1 (fun q => absurd q (by decide)) hW (fun q => absurd q (by decide))
    have k1 : (adv b len (ntU P (P.2.1.2.1 + 1))).2.1.1 = P.2.1.1 := rfl
    have k2 : (adv b len (ntU P (P.2.1.2.1 + 1))).2.1.2.1 = P.2.1.2.1 + 1 := rfl
    generalize adv b len (ntU P (P.2.1.2.1 + 1)) = P1 at ih hst k1 k2
    generalize par b len key fu 5 P1 = R at ih
    obtain ⟨r1, r2⟩ := R
    rcases ih with ⟨q0, s', q1, q2⟩ | ⟨q0, f', G', C, V, te, q1, ⟨x1, x2, x3⟩, x4, x5, ⟨x6, x7⟩, ⟨x8, x9⟩, x10⟩
    · dsimp only at q0 q2
      subst q0
      exact Or.inl ⟨rfl, s', hst.trans q1, q2⟩
    · dsimp only at q0 q1 x1 x2 x3 x4 x10
      subst q0
      rw [k1] at q1 x8 x9 x10
      have hl : r2.2.2.length < 96 := by
        have y := congrArg List.length x4
        rw [List.length_append, List.length_append, List.length_map, nots_len] at y
        have z := x1.2.2.2.1
        have := z.1; have := z.2.1; have := z.2.2.2.2.2
        omega
      refine Or.inr ⟨rfl, f', G', C, V, te, hst.trans q1, ⟨sr_of (P := r2) rfl x1, ?_, ?_⟩, ?_, x5, ⟨x6, x7⟩, ⟨x8, x9⟩, x10⟩
      · have y : r2.2.1.2.1 - 1 ≤ 8 := by (have := x3.2; omega)
        exact pb_adP (pb_nt x2 y)
      · refine ⟨x3.1.trans k1, ?_⟩
        show r2.2.1.2.1 - 1 = P.2.1.2.1
        rw [x3.2, k2]
        omega
      · show _ = (adC r2.2.2 (-33)).map enc ++ notsR j
        rw [x4, adC, if_pos hl, List.map_append, List.append_assoc]
        rfl
