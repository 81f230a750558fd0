/-! the parsers side by side: a rank's signs, one by one -/
theorem sim_jl {b : Nat → Int32} {len key fu r : Nat} {P : Ps} {W : List Int32} {td : Nat → Int32} (hr : r < 5) (ih : Sim b len key fu (r + 1)) (hm : muP (r + 1) P < fu) (hW : topR r W) (hn : P.2.1.2.1 = cntN W) : ∀ (c : Nat) (Q : Ps) (f : Nat) (G : Gt) (C V : List Int32) (te : Nat → Int32), JI b len r W td P c Q f G C V te → SimO b len key r 0 W td P f (jlF (par b len key fu (r + 1)) b len r c Q) (G, (C, Q.2.1.2.2, V ++ W), te, P.2.1.1, cntN W, false)
  | 0, Q, f, G, C, V, te, h => jl_end h (Or.inl rfl)
  | c + 1, Q, f, G, C, V, te, h => by
    rw [jlF]
    by_cases e : rnkI (sgn b len Q) = nI r
    · rw [if_pos e]
      obtain ⟨⟨x1, x2, x3⟩, x4, x5, ⟨x6, x6'⟩, ⟨x7, x7'⟩, x8, x9⟩ := h
      have hq : ∀ q, q < 5 → ¬ (-1 : Int32) = nI q := by decide
      have yy : sgM (nI G.2.2.1) G.2.2.2.1 = enc (-(sgn b len Q)) ∧ ¬ sgM (nI G.2.2.1) G.2.2.2.1 = 0 ∧ ¬ sgM (nI G.2.2.1) G.2.2.2.1 = -10 ∧ ¬ sgM (nI G.2.2.1) G.2.2.2.1 = -11 ∧ rkM (sgM (nI G.2.2.1) G.2.2.2.1) = nI (r + 1) := by
        rcases tr_sg x1.1 (sr_lt x1) x1.2.2.2.1.2.2.1 with y | ⟨y1, y2, y3, y4, y5, _⟩
        · rw [y.2] at e
          exact absurd e (hq r hr)
        · refine ⟨y1, y2, y3, y4, y5.trans ?_⟩
          rw [e]
          show nI r + nI 1 = _
          rw [nI_add]
      have zz : Q.1.2.2 = 3 ∧ G.2.2.1 = 3 ∧ ¬ G.2.2.2.1 = 41 := by
        rcases tr_sgn x1.1 (sr_lt x1) with ⟨z1, z2, z3, z4⟩ | ⟨z1, z2, z3⟩
        · refine ⟨z1, z2, fun g => ?_⟩
          rw [z4, ← z3] at g
          rw [g] at e
          have hq2 : ∀ q, q < 5 → ¬ rnkI 41 = nI q := by decide
          exact hq2 r hr e
        · rw [z3] at e
          have hq2 : ∀ q, q < 5 → ¬ rnkI (-1) = nI q := by decide
          exact absurd e (hq2 r hr)
      obtain ⟨z1, z2, z41⟩ := zz
      obtain ⟨s, hs⟩ : ∃ s, s = sgM (nI G.2.2.1) G.2.2.2.1 := ⟨_, rfl⟩
      rw [← hs] at yy
      obtain ⟨y1, y2, y3, y4, y5⟩ := yy
      have gb := x1.2.2.2.1
      obtain ⟨g, rfl⟩ : ∃ g, f = g + 1 := ⟨f - 1, by have := gb.1; have := gb.2.1; omega⟩
      obtain ⟨a1, a2⟩ := sr_adv x1 x2 (by omega) (by omega)
      obtain ⟨t1, ht1⟩ : ∃ t1, t1 = upd te P.2.1.1 (if r = 2 ∨ (2 < r ∧ ¬ te P.2.1.1 = 0) then 1 else 0) := ⟨_, rfl⟩
      have ht : r = 2 → te P.2.1.1 = 0 := by
        intro r2
        rcases x9 with ⟨_, q | q⟩ | q
        · exact q.2
        · exact absurd q.1 (Nat.succ_ne_zero _)
        · exact absurd r2 q.1
      have hst : esR b len key (g + 1) (G, (C, Q.2.1.2.2, V ++ W), te, P.2.1.1, cntN W, false) = esR b len key g (enS (adv b len Q) (goS b len G) (notsR 0 ++ s :: W) t1) := by
        refine (es_sign z2 hs.symm y2 y5 z41 ht hr (fun w hw => (x5 w hw).2) hW).trans ?_
        show _ = esR b len key g (goS b len G, (Q.2.2.map enc, Q.2.1.2.2, s :: W), t1, Q.2.1.1, Q.2.1.2.1, true)
        rw [x3.1, x3.2, hn, x4, ht1]
      have cn : cntN (s :: W) = cntN W := by rw [cntN, if_neg y3, Nat.zero_add]
      have lx := congrArg List.length x4
      rw [List.length_append, List.length_map] at lx
      have hE1 : En b len g (adv b len Q) (goS b len G) (notsR 0 ++ s :: W) := by
        refine ⟨a1, pb_adv x2, ?_, ?_, by omega⟩
        · show Q.2.1.2.1 = cntN (s :: W)
          rw [cn, x3.2, hn]
        · show Q.2.2.length + (W.length + 1) ≤ _
          omega
      have tpa : t1 P.2.1.1 = (if r = 2 ∨ (2 < r ∧ ¬ te P.2.1.1 = 0) then 1 else 0) := by rw [ht1]; simp [upd]
      have hmu : muP (r + 1) (adv b len Q) < fu := by
        have e1 : muP (r + 1) (adv b len Q) = muP (r + 1) Q := rfl
        rw [e1, muP_kp x3]
        exact hm
      have htop : topR (r + 1) (s :: W) := by
        intro w V' e'
        cases e'
        exact Or.inr (by rw [y5]; exact (nI_ltI (by omega) (by omega)).mpr (by omega))
      have htd : r + 1 ≤ 2 → t1 (adv b len Q).2.1.1 = 0 := by
        intro r1
        show t1 Q.2.1.1 = 0
        rw [x3.1, tpa, if_neg (by omega)]
      have ih' := ih (adv b len Q) (goS b len G) (s :: W) 0 t1 g hmu hE1 (fun _ => rfl) htop htd
      have mn := par_mn (key := key) fu (r + 1) (adv b len Q) (pb_adv x2) (tkW_adv b len Q)
      have k1 : (adv b len Q).2.1.1 = P.2.1.1 := x3.1
      have k2 : (adv b len Q).2.1.2.1 = P.2.1.2.1 := x3.2
      have k3 : (goS b len G).2.1 = (adv b len Q).1.1 := a1.1.1.symm
      generalize adv b len Q = P1 at ih' hst k1 k2 k3 mn
      generalize par b len key fu (r + 1) P1 = R at ih' mn
      obtain ⟨r1, r2⟩ := R
      rcases ih' with ⟨q0, s', q1, q2⟩ | ⟨q0, f', G', C', V', te', q1, ⟨w1, w2, w3⟩, w4, w5, ⟨w6, w6'⟩, ⟨w7, w7'⟩, w8⟩
      · dsimp only at q0 q2
        subst q0
        rw [if_neg (fun g => Bool.noConfusion g)]
        exact Or.inl ⟨rfl, s', hst.trans q1, q2⟩
      · dsimp only at q0 q1 w1 w2 w3 w4 w8 mn
        subst q0
        rw [if_pos rfl]
        rw [k1] at q1 w7 w7' w8
        rw [cn] at q1
        have w4' : C' ++ V' = r2.2.2.map enc := w4.trans (List.append_nil _)
        have ly := congrArg List.length w4'
        rw [List.length_append, List.length_map] at ly
        rw [List.length_cons] at w6
        have gb' := w1.2.2.2.1
        have e21 := w1.1.1
        have hl : r2.2.2.length < 96 := by
          have := gb'.1; have := gb'.2.1; have := gb'.2.2.2.2.2
          omega
        have hJ : JI b len r W td P c (adP r2 (-(sgn b len Q))) f' G' C' (V' ++ [s]) te' := by
          refine ⟨⟨sr_of (P := r2) rfl w1, pb_adP w2, w3.1.trans k1, w3.2.trans k2⟩, ?_, ?_, ⟨?_, w6'⟩, ⟨?_, ?_⟩, w8, ?_⟩
          · show _ = (adC r2.2.2 (-(sgn b len Q))).map enc
            rw [adC, if_pos hl, List.map_append, List.map_singleton, ← List.append_assoc, w4', y1]
          · intro w hw
            rcases List.mem_append.mp hw with q | q
            · have u := w5 w q
              exact ⟨u.1, u.2.1, fun v => u.2.2 (Int32.lt_trans v ((nI_ltI (by omega) (by omega)).mpr (by omega)))⟩
            · rw [List.mem_singleton.mp q]
              exact ⟨y3, y4, by rw [y5]; exact Int32.lt_irrefl⟩
          · rw [List.length_append, List.length_singleton]
            omega
          · intro k hk
            rw [w7 k hk, ht1]
            simp only [upd]
            rw [if_neg (by omega)]
            exact x7 k hk
          · intro h2
            rw [w7' (by omega), tpa, ← x7' h2]
            by_cases t0 : te P.2.1.1 = 0
            · rw [if_neg (fun v => v.elim (fun v => by omega) (fun v => v.2 t0))]
              exact ⟨fun _ => t0, fun _ => rfl⟩
            · rw [if_pos (Or.inr ⟨h2, t0⟩)]
              exact ⟨fun v => absurd v (by decide), fun v => absurd v t0⟩
          · rcases x9 with ⟨q, u | u⟩ | ⟨q, u⟩
            · refine Or.inl ⟨q, Or.inr ⟨by have := u.1; omega, ?_⟩⟩
              rw [w7' (by omega), tpa, if_pos (Or.inl q)]
              decide
            · exact absurd u.1 (Nat.succ_ne_zero _)
            · exact Or.inr ⟨q, by omega⟩
        have jn := sim_jl hr ih hm hW hn c _ f' G' C' (V' ++ [s]) te' hJ
        refine simO_eq (hst.trans (q1.trans ?_)) jn
        show _ = esR b len key f' (G', (C', r2.2.1.2.2, (V' ++ [s]) ++ W), te', P.2.1.1, cntN W, false)
        rw [List.append_assoc, List.singleton_append]
    · rw [if_neg e]
      exact jl_end h (Or.inr e)
theorem sim_r {b : Nat → Int32} {len key fu r : Nat} (hr : r < 5) (ih : Sim b len key fu (r + 1)) : Sim b len key (fu + 1) r := by
  intro P G W j td f hmu hE hj hW htd
  obtain rfl := hj hr
  rw [par_r hr]
  have hm : muP (r + 1) P < fu := by
    unfold muP at hmu ⊢
    omega
  have tu : r + 1 ≤ 2 → td P.2.1.1 = 0 := fun h => htd (by omega)
  have h := ih P G W 0 td f hm hE (fun _ => rfl) (top_up hr hW) tu
  have hn : P.2.1.2.1 = cntN W := hE.2.2.1
  generalize par b len key fu (r + 1) P = R at h
  obtain ⟨r1, r2⟩ := R
  rcases h with ⟨q0, s', q1, q2⟩ | ⟨q0, f', G', C', V', te', q1, ⟨w1, w2, w3⟩, w4, w5, ⟨w6, w6'⟩, ⟨w7, w7'⟩, w8⟩
  · dsimp only at q0 q2
    subst q0
    rw [if_neg (fun g => Bool.noConfusion g)]
    exact Or.inl ⟨rfl, s', q1, q2⟩
  · dsimp only at q0 q1 w1 w2 w3 w4 w8
    subst q0
    rw [if_pos rfl]
    have gb' := w1.2.2.2.1
    have hJ : JI b len r W td P (mostN r) r2 f' G' C' V' te' := by
      refine ⟨⟨w1, w2, w3⟩, w4.trans (List.append_nil _), ?_, ⟨w6, w6'⟩, ⟨w7, fun q => w7' (by omega)⟩, w8, ?_⟩
      · intro w q
        have u := w5 w q
        exact ⟨u.1, u.2.1, fun v => u.2.2 (Int32.lt_trans v ((nI_ltI (by omega) (by omega)).mpr (by omega)))⟩
      · unfold mostN
        by_cases e : r = 2
        · rw [if_pos e]
          exact Or.inl ⟨e, Or.inl ⟨rfl, (w7' (by omega)).mpr (htd (by omega))⟩⟩
        · rw [if_neg e]
          exact Or.inr ⟨e, by have := gb'.2.2.2.2.2; omega⟩
    exact simO_eq q1 (sim_jl hr ih hm hW hn (mostN r) r2 f' G' C' V' te' hJ)
theorem sim_all {b : Nat → Int32} {len key : Nat} (hk : key < 3) : ∀ fu r, r ≤ 5 → Sim b len key fu r
  | 0, r, _ => fun P G W j td f h => absurd h (Nat.not_lt_zero _)
  | fu + 1, r, h => by
    by_cases e : r = 5
    · rw [e]
      exact sim_5 hk (sim_all hk fu 0 (by omega)) (sim_all hk fu 5 (by omega))
    · exact sim_r (by omega) (sim_all hk fu (r + 1) (by omega))
