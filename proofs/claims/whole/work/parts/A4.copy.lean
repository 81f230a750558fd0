/-! the steps: a copy; slots read; what is told -/
theorem cpy_ne {m : Mem} {a b sp dp n i : Nat} (h : i ≠ b) : m_cpy m a b sp dp n i = m i := by
  funext k
  simp only [m_cpy]
  rw [if_neg (fun z => h z.1)]
theorem copy_inv {m M : Mem} {x F T P Q N : Nat} (hH : IvH m x) (hF : F < 4) (hT : T < 4) (hP : P + N ≤ 24) (hQ : Q + N ≤ 24) (sF : ¬ m (x + 101) F < 0) (sT : ¬ m (x + 101) T < 0) (e16 : M (x + 103) = cpC (m (x + 103)) (fun k => m (x + 103) (24 * F + P + k)) (24 * T + Q) N) (fr : ∀ i, i ≠ x + 103 → i ≠ x + 108 → M i = m_cpy m (x + 59 + 2 * F + 1) (x + 59 + 2 * T + 1) P Q N i) : IvH M x := by
  intro j hj
  have h := hH j hj
  have fF := (ivH_at hH hF).2 sF
  rw [fr (x + 59 + 2 * j) (by omega) (by omega), cpy_ne (by omega), fr (x + 101) (by omega) (by omega), cpy_ne (by omega), fr (x + 102) (by omega) (by omega), cpy_ne (by omega), fr (x + 59 + 2 * j + 1) (by omega) (by omega), e16]
  refine ⟨h.1, h.2.1, h.2.2.elim Or.inl (fun g => Or.inr ⟨g.1, fun k hk => ?_⟩)⟩
  have gk := g.2 k hk
  by_cases c : j = T
  · subst c
    simp only [m_cpy, cpC]
    by_cases d : Q ≤ k ∧ k < Q + N
    · rw [if_pos ⟨trivial, d.1, d.2⟩, if_pos (by omega), show 24 * F + P + (24 * j + k - (24 * j + Q)) = 24 * F + (P + (k - Q)) by omega]
      exact fF (P + (k - Q)) (by omega)
    · rw [if_neg (fun z => d z.2), if_neg (by omega)]
      exact gk
  · rw [cpy_ne (by omega)]
    unfold cpC
    rw [if_neg (by omega)]
    exact gk
theorem st_copy {X : Xb} {S : Sg} {m : Mem} {x : Nat} (hI : Inv S m x) (f p t a n : Int32) : CStep 2 0 0 2 fX6_copy fX7_copy X [.int f, .int p, .int t, .int a, .int n] S m x := by
  have hH := hI.2.2.2.2.1
  have fm : ∀ b, x + 67 ≤ b → (cCopy m x f p t a n).2 b = m b := by
    intro b hb
    unfold cCopy
    by_cases c : (0 ≤ f ∧ f ≤ 3) ∧ (0 ≤ t ∧ t ≤ 3)
    · rw [if_pos c]
      obtain ⟨i, hi, rfl⟩ := lit_in (m := 3) (by decide) c.1
      obtain ⟨j, hj, rfl⟩ := lit_in (m := 3) (by decide) c.2
      rw [nI_clamp (by omega), nI_clamp (by omega)]
      repeat' split
      all_goals first | rfl | exact cpy_ne (by omega)
    · rw [if_neg c]
  refine stp_mem (a := (cCopy m x f p t a n).1) (M1 := (cCopy m x f p t a n).2) hI (ok_X6_copy hI.1.1 (ivH_Z hH)) (ok_X7_copy hI.1.2.1 (fun i hi => by rw [fm (x + 87 + 15) (by omega)]; exact ivH_M hH i hi)) (fun r S2 m2 hp => ?_)
  obtain ⟨p1, p2, p3⟩ := hp
  obtain ⟨M, hM⟩ : ∃ M, M = cCopy m x f p t a n := ⟨_, rfl⟩
  rw [← hM] at fm p1 p3 ⊢
  have e14 := fm (x + 87 + 14) (by omega)
  have e15 := fm (x + 87 + 15) (by omega)
  have e16 := fm (x + 87 + 16) (by omega)
  unfold mCopyR at p1
  unfold mCopyB at p3
  rw [e14, e15] at p1 p3
  rw [e16] at p3
  unfold cCopy at hM
  by_cases c : (0 ≤ f ∧ f ≤ 3) ∧ (0 ≤ t ∧ t ≤ 3)
  · rw [if_pos c] at hM p1
    obtain ⟨F, hF, rfl⟩ := lit_in (m := 3) (by decide) c.1
    obtain ⟨T, hT, rfl⟩ := lit_in (m := 3) (by decide) c.2
    rw [nI_clamp (n := F) (by omega), nI_clamp (n := T) (by omega)] at hM p1 p3
    have aF := ivH_at hH (i := F) (by omega)
    have aT := ivH_at hH (i := T) (by omega)
    obtain ⟨eF, ⟨zF, zF1, zF2, zF3⟩, _⟩ := hH F (by omega)
    obtain ⟨eT, ⟨zT, zT1, zT2, zT3⟩, _⟩ := hH T (by omega)
    by_cases s : m (x + 87 + 14) F < 0 ∨ m (x + 87 + 14) T < 0
    · rw [if_pos (s.elim (fun g => Or.inl (aF.1.mp g)) (fun g => Or.inr (aT.1.mp g)))] at hM
      rw [if_pos s] at p1
      rcases p3 with ⟨_, e⟩ | ⟨g, _⟩
      · rw [hM] at e ⊢
        exact ⟨p1, p2, by rw [e]; exact hI⟩
      · exact absurd s g.2.1
    · rw [if_neg (fun g => s (g.elim (fun q => Or.inl (aF.1.mpr q)) (fun q => Or.inr (aT.1.mpr q))))] at hM
      rw [if_neg s] at p1
      have es : m (x + 87 + 14) F = m (x + 87 + 14) T ↔ m (x + 59 + 2 * F) 1 = m (x + 59 + 2 * T) 1 := by rw [eF, eT]
      by_cases k : m (x + 59 + 2 * F) 1 = m (x + 59 + 2 * T) 1
      · rw [if_neg (fun z => z k), zF2, zT2] at hM
        rw [if_neg (fun z => z (es.mpr k)), show m (x + 87 + 15) F = nI zF from zF3, show m (x + 87 + 15) T = nI zT from zT3] at p1
        rw [show m (x + 87 + 15) F = nI zF from zF3, show m (x + 87 + 15) T = nI zT from zT3] at p3
        by_cases d : (0 ≤ p ∧ 0 ≤ n ∧ p ≤ nI zF - n) ∧ (0 ≤ a ∧ 0 ≤ n ∧ a ≤ nI zT - n)
        · rw [if_pos d] at hM p1
          rcases p3 with ⟨g, _⟩ | ⟨g, g1, g2⟩
          · exact absurd ⟨c, s, es.mpr k, d.1, d.2⟩ g
          · have b1 := plIn zF1 d.1
            have b2 := plIn zT1 d.2
            rw [hM] at g2 ⊢
            refine ⟨p1, p2, inv_H hI (copy_inv hH (F := F) (T := T) (P := p.toNatClampNeg) (Q := a.toNatClampNeg) (N := n.toNatClampNeg) (by omega) (by omega) (by omega) (by omega) (fun g => s (Or.inl g)) (fun g => s (Or.inr g)) g1 (fun i h1 h2 => g2 i h1 h2)) (fun b h1 h2 h3 h4 h5 => ?_)⟩
            rw [g2 b (by omega) (by omega)]
            exact cpy_ne (by omega)
        · rw [if_neg d] at hM p1
          rcases p3 with ⟨_, e⟩ | ⟨g, _⟩
          · rw [hM] at e ⊢
            exact ⟨p1, p2, by rw [e]; exact hI⟩
          · exact absurd ⟨g.2.2.2.1, g.2.2.2.2⟩ d
      · rw [if_pos k] at hM
        rw [if_pos (fun z => k (es.mp z))] at p1
        rcases p3 with ⟨_, e⟩ | ⟨g, _⟩
        · rw [hM] at e ⊢
          exact ⟨p1, p2, by rw [e]; exact hI⟩
        · exact absurd (es.mp g.2.2.1) k
  · rw [if_neg c] at hM p1
    rcases p3 with ⟨_, e⟩ | ⟨g, _⟩
    · rw [hM] at e ⊢
      exact ⟨p1, p2, by rw [e]; exact hI⟩
    · exact absurd g.1 c
theorem div_m1 (y : Int32) : jr y (-1) = 0 := by
  have e : y / (-1) = -y := by
    apply Int32.toInt_inj.mp
    rw [Int32.toInt_div, show (-1 : Int32).toInt = -1 by decide, Int.tdiv_neg, Int.tdiv_one, Int32.toInt_neg]
  unfold jr
  rw [e, Int32.neg_mul_neg, Int32.mul_one, Int32.sub_self]
theorem st_ask {X : Xb} {S : Sg} {m : Mem} {x : Nat} (hI : Inv S m x) (v k : Int32) : CStep 2 0 0 2 fX6_ask fX7_ask X [.int v, .int k] S m x := by
  have hL := hI.2.2.2.2.2.1
  obtain ⟨n, h, c, q⟩ := hI.2.1
  have k7 := ok_X7_ask (X := X) (S := S) (mi := m) (v := v) (k := k) hI.1.2.1
  have e : mAsk m (x + 87) v k = cAsk m x v k := by
    unfold mAsk cAsk
    by_cases d : (0 ≤ v ∧ v ≤ 4) ∧ (0 ≤ k ∧ k ≤ 5)
    · rw [if_pos d, if_pos d]
      obtain ⟨i, hi, rfl⟩ := lit_in (m := 4) (by decide) d.1
      rw [nI_clamp (by omega)]
      obtain ⟨l1, l2, l3, l4, l5⟩ := hL i (by omega)
      rw [show m (x + 87 + 17) i = m (x + 67 + 4 * i) 0 from l1.symm]
      by_cases s : m (x + 67 + 4 * i) 0 = 0
      · rw [if_pos s, if_pos s]
      · rw [if_neg s, if_neg s]
        by_cases o : m (x + 67 + 4 * i) 0 = 1
        · obtain ⟨⟨z, z1, z2, z3⟩, w, w1, w2, w3⟩ := l3 (l1.symm.trans o)
          rw [show m (x + 87 + 18) i = nI z from z3, show m (x + 87 + 19) i = nI w from w3, z2, w2, show m (x + 1) 10 = m (x + 88) 2 from tw3 q (j := 2) (by decide), wide_eq w1]
        · rw [if_neg (fun z => o z.1), if_neg (fun z => o z.1)]
    · rw [if_neg d, if_neg d]
  rw [e] at k7
  refine stp_id hI (ok_X6_ask hI.1.1 (fun i hi g => ?_)) k7
  obtain ⟨l1, l2, l3, l4, l5⟩ := hL i hi
  obtain ⟨⟨z, z1, z2, z3⟩, _⟩ := l3 (l1.symm.trans g)
  exact ⟨z, by omega, z2⟩
theorem st_item {X : Xb} {S : Sg} {m : Mem} {x : Nat} (hI : Inv S m x) (v p : Int32) : CStep 3 0 0 2 fX6_item fX7_item X [.int v, .int p] S m x := by
  have hL := hI.2.2.2.2.2.1
  have k7 := ok_X7_item (X := X) (S := S) (mi := m) (v := v) (p := p) hI.1.2.1 (fun i hi g => by
    obtain ⟨l1, ⟨z, z1, z2⟩, l3, l4, l5⟩ := hL i hi
    exact ⟨z, z1, (l4 g).1.symm.trans z2⟩)
  have e : mItem m (x + 87) v p = cItem m x v p := by
    unfold mItem cItem
    by_cases d : 0 ≤ v ∧ v ≤ 4
    · rw [if_pos d, if_pos d]
      obtain ⟨i, hi, rfl⟩ := lit_in (m := 4) (by decide) d
      rw [nI_clamp (by omega)]
      obtain ⟨l1, ⟨z, z1, z2⟩, l3, l4, l5⟩ := hL i (by omega)
      rw [show m (x + 87 + 17) i = m (x + 67 + 4 * i) 0 from l1.symm]
      by_cases s : m (x + 67 + 4 * i) 0 = 0
      · rw [if_pos s, if_pos s]
      · rw [if_neg s, if_neg s]
        by_cases o : m (x + 67 + 4 * i) 0 = 2
        · obtain ⟨g1, g2⟩ := l4 (l1.symm.trans o)
          have nn : ¬ ¬ m (x + 67 + 4 * i) 0 = 2 := not_not_intro o
          rw [if_neg nn, if_neg nn, show m (x + 87 + 18) i = nI z from g1.symm.trans z2, z2]
          by_cases u : 0 ≤ p ∧ p ≤ nI z - 1
          · have nu : ¬ ¬ (0 ≤ p ∧ p ≤ nI z - 1) := not_not_intro u
            rw [if_neg nu, if_neg nu]
            obtain ⟨k, k1, rfl⟩ := pl_in z1 u
            rw [nI_clamp (by omega), g2 k (by omega)]
          · rw [if_pos u, if_pos u]
        · rw [if_pos o, if_pos o]
    · rw [if_neg d, if_neg d]
  rw [e] at k7
  exact stp_id hI (ok_X6_item hI.1.1 (fun i hi => (hL i hi).2.1)) k7
theorem st_rest {X : Xb} {S : Sg} {m : Mem} {x : Nat} (hI : Inv S m x) (v n : Int32) : CStep 2 0 0 2 fX6_rest fX7_rest X [.int v, .int n] S m x := by
  have hL := hI.2.2.2.2.2.1
  have k7 := ok_X7_rest (X := X) (S := S) (mi := m) (v := v) (n := n) hI.1.2.1
  have e : mRest m (x + 87) v n = cRest m x v n := by
    unfold mRest cRest
    by_cases d : 0 ≤ v ∧ v ≤ 4
    · rw [if_pos d, if_pos d]
      obtain ⟨i, hi, rfl⟩ := lit_in (m := 4) (by decide) d
      rw [nI_clamp (by omega)]
      obtain ⟨l1, l2, l3, l4, l5⟩ := hL i (by omega)
      rw [show m (x + 87 + 17) i = m (x + 67 + 4 * i) 0 from l1.symm]
      by_cases s : m (x + 67 + 4 * i) 0 = 0
      · rw [if_pos s, if_pos s]
      · rw [if_neg s, if_neg s]
        by_cases o : m (x + 67 + 4 * i) 0 = 3
        · have nn : ¬ ¬ m (x + 67 + 4 * i) 0 = 3 := not_not_intro o
          rw [if_neg nn, if_neg nn, show m (x + 87 + 18) i = m (x + 67 + 4 * i) 3 from (l5 (l1.symm.trans o)).symm]
          by_cases u : n = 0
          · rw [if_pos u, if_pos u]
          · rw [if_neg u, if_neg u]
            by_cases w : n = -1
            · rw [if_pos w, w, div_m1]
            · rw [if_neg w]
        · rw [if_pos o, if_pos o]
    · rw [if_neg d, if_neg d]
  rw [e] at k7
  exact stp_id hI (ok_X6_rest hI.1.1) k7
