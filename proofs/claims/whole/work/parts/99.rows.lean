/-! rows behind a call -/
theorem newR_up {A : Nat → Int32} {n h j : Nat} {a v : Int32} (h1 : A 1 = nI n) (g : Rg n h A) (hh : h ≤ 9999) (j1 : j ≠ 1) (j2 : j ≠ 2) (j3 : j ≠ 3) (j5 : j ≠ 5) (j66 : j < 66) (hv : rel n j → ∃ q, loI j ≤ q ∧ q ≤ hiI j ∧ v = nI q) : NewR A (a, upd A j v, n) :=
  ⟨by show upd A j v 1 = _; rw [upd_ne (Ne.symm j1)]; exact h1, ⟨h, RgT.up g j2 j3 hv, hh⟩, by show upd A j v 5 = _; rw [upd_ne (Ne.symm j5)], (tail66.rf A).up j66⟩
theorem comes_rg {A : Nat → Int32} {n h k f w : Nat} (g : Rg n h A) (hn : n < 8) (hk : k ≤ 5) (hf : f ≤ 23) (hw1 : 1 ≤ w) (hw : w ≤ 12) : Rg (n + 1) h (comesF A n (nI k) (nI f) (nI w)) := by
  obtain ⟨g1, g2, g3, g4⟩ := g
  refine ⟨by omega, ?_, ?_, fun j hj => ?_⟩
  · simp only [comesF, new5, upd]
    rw [if_neg (by omega), if_neg (by omega), if_neg (by omega), if_neg (by omega), if_neg (by omega), if_neg (by omega)]
    exact g2
  · simp only [comesF, new5, upd]
    rw [if_neg (by omega), if_neg (by omega), if_neg (by omega), if_neg (by omega), if_neg (by omega), if_neg (by omega)]
    exact g3
  · have j1 : j ≠ 1 := by rcases hj with e | e <;> omega
    simp only [comesF, new5, upd]
    rw [if_neg j1]
    by_cases c4 : j = 26 + 5 * n + 4
    · rw [if_pos c4]
      exact ⟨0, by rw [c4, lo_A n 4 (by decide)]; exact Nat.zero_le _, Nat.zero_le _, rfl⟩
    · rw [if_neg c4]
      by_cases c3 : j = 26 + 5 * n + 3
      · rw [if_pos c3]
        exact ⟨0, by rw [c3, lo_A n 3 (by decide)]; exact Nat.zero_le _, Nat.zero_le _, rfl⟩
      · rw [if_neg c3]
        by_cases c2 : j = 26 + 5 * n + 2
        · rw [if_pos c2]
          exact ⟨w, by rw [c2, lo_A n 2 (by decide)]; exact hw1, by rw [c2, hi_A n 2 (by decide)]; exact hw, rfl⟩
        · rw [if_neg c2]
          by_cases c1 : j = 26 + 5 * n + 1
          · rw [if_pos c1]
            exact ⟨f, by rw [c1, lo_A n 1 (by decide)]; exact Nat.zero_le _, by rw [c1, hi_A n 1 (by decide)]; exact hf, rfl⟩
          · rw [if_neg c1]
            by_cases c0 : j = 26 + 5 * n
            · rw [if_pos c0]
              have l0 := lo_A n 0 (by decide)
              have u0 := hi_A n 0 (by decide)
              rw [Nat.add_zero] at l0 u0
              exact ⟨k, by rw [c0, l0]; exact Nat.zero_le _, by rw [c0, u0]; exact hk, rfl⟩
            · rw [if_neg c0]
              exact g4 j (by rcases hj with e | e; exact Or.inl e; exact Or.inr ⟨e.1, by omega⟩)
theorem comes_lo {A : Nat → Int32} {n : Nat} {k f w : Int32} (hn : n < 8) : comesF A n k f w 1 = nI (n + 1) ∧ comesF A n k f w 5 = A 5 ∧ tail66 A (comesF A n k f w) := by
  refine ⟨upd_at _ _ _, ?_, ?_⟩
  · simp only [comesF, new5, upd]
    rw [if_neg (by omega), if_neg (by omega), if_neg (by omega), if_neg (by omega), if_neg (by omega), if_neg (by omega)]
  · exact ((((((tail66.rf A).up (by omega)).up (by omega)).up (by omega)).up (by omega)).up (by omega)).up (by omega)
theorem newR_attic {A : Nat → Int32} {n h : Nat} (k f w : Int32) (h1 : A 1 = nI n) (g : Rg n h A) (hh : h ≤ 9999) : NewR A (sAttic A n k f w) := by
  unfold sAttic
  by_cases c : (0 ≤ k ∧ k ≤ 5) ∧ (0 ≤ f ∧ f ≤ 23) ∧ (1 ≤ w ∧ w ≤ 12)
  · rw [if_pos c]
    by_cases d : n = 8
    · rw [if_pos d]; exact newR_id h1 g hh
    · rw [if_neg d]
      have n8 := g.1
      obtain ⟨k', k1, rfl⟩ := lit_in (m := 5) (by decide) c.1
      obtain ⟨f', f1, rfl⟩ := lit_in (m := 23) (by decide) c.2.1
      obtain ⟨w', w1, w2, rfl⟩ := lit_in1 (m := 12) (by decide) c.2.2
      have l := comes_lo (A := A) (n := n) (k := nI k') (f := nI f') (w := nI w') (by omega)
      exact ⟨l.1, ⟨h, comes_rg g (by omega) k1 f1 w1 w2, hh⟩, l.2.1, l.2.2⟩
  · rw [if_neg c]; exact newR_id h1 g hh
theorem rg_A {n a f v h : Nat} {A : Nat → Int32} (hf : f < 5) (hlo : (if f = 2 then 1 else 0) ≤ v) (hhi : v ≤ if f = 0 then 5 else if f = 1 then 23 else if f = 2 then 12 else 9999) : rel n (26 + 5 * a + f) → ∃ q, loI (26 + 5 * a + f) ≤ q ∧ q ≤ hiI (26 + 5 * a + f) ∧ nI v = nI q := fun _ => ⟨v, by rw [lo_A a f hf]; exact hlo, by rw [hi_A a f hf]; exact hhi, rfl⟩
theorem newR_turns {A : Nat → Int32} {n h : Nat} (v k : Int32) (h1 : A 1 = nI n) (g : Rg n h A) (hh : h ≤ 9999) : NewR A (sTurns A n v k) := by
  unfold sTurns
  by_cases c : (0 ≤ v ∧ v ≤ nI n - 1) ∧ (0 ≤ k ∧ k ≤ 5)
  · rw [if_pos c]
    have n8 := g.1
    obtain ⟨a, a1, rfl⟩ := att_in c.1 n8
    obtain ⟨k', k1, rfl⟩ := lit_in (m := 5) (by decide) c.2
    rw [nI_clamp (by omega)]
    exact newR_up h1 g hh (by omega) (by omega) (by omega) (by omega) (by omega) (rg_A (f := 0) (h := h) (A := A) (by decide) (Nat.zero_le _) k1)
  · rw [if_neg c]; exact newR_id h1 g hh
theorem newR_set {A : Nat → Int32} {n h : Nat} (v w y : Int32) (h1 : A 1 = nI n) (g : Rg n h A) (hh : h ≤ 9999) : NewR A (sSet A n v w y) := by
  unfold sSet
  by_cases c : 0 ≤ v ∧ v ≤ nI n - 1
  · rw [if_pos c]
    have n8 := g.1
    obtain ⟨a, a1, rfl⟩ := att_in c n8
    rw [nI_clamp (by omega)]
    by_cases d : (w = 1 ∧ 0 ≤ y ∧ y ≤ 23) ∨ (w = 2 ∧ 1 ≤ y ∧ y ≤ 12) ∨ ((w = 3 ∨ w = 4) ∧ 0 ≤ y ∧ y ≤ 9999)
    · rw [if_pos d]
      rcases d with ⟨rfl, d⟩ | ⟨rfl, d⟩ | ⟨rfl | rfl, d⟩
      · obtain ⟨q, q1, rfl⟩ := lit_in (m := 23) (by decide) d
        rw [show (1 : Int32).toNatClampNeg = 1 by decide]
        exact newR_up h1 g hh (by omega) (by omega) (by omega) (by omega) (by omega) (rg_A (h := h) (A := A) (by decide) (Nat.zero_le _) q1)
      · obtain ⟨q, q0, q1, rfl⟩ := lit_in1 (m := 12) (by decide) d
        rw [show (2 : Int32).toNatClampNeg = 2 by decide]
        exact newR_up h1 g hh (by omega) (by omega) (by omega) (by omega) (by omega) (rg_A (h := h) (A := A) (by decide) q0 q1)
      · obtain ⟨q, q1, rfl⟩ := lit_in (m := 9999) (by decide) d
        rw [show (3 : Int32).toNatClampNeg = 3 by decide]
        exact newR_up h1 g hh (by omega) (by omega) (by omega) (by omega) (by omega) (rg_A (h := h) (A := A) (by decide) (Nat.zero_le _) q1)
      · obtain ⟨q, q1, rfl⟩ := lit_in (m := 9999) (by decide) d
        rw [show (4 : Int32).toNatClampNeg = 4 by decide]
        exact newR_up h1 g hh (by omega) (by omega) (by omega) (by omega) (by omega) (rg_A (h := h) (A := A) (by decide) (Nat.zero_le _) q1)
    · rw [if_neg d]; exact newR_id h1 g hh
  · rw [if_neg c]; exact newR_id h1 g hh
theorem rg_st {n k v : Nat} (hk : k < 8) (hv : v ≤ 99) : rel n (18 + k) → ∃ q, loI (18 + k) ≤ q ∧ q ≤ hiI (18 + k) ∧ nI v = nI q := fun _ => ⟨v, by rw [loI, if_neg (by omega)]; exact Nat.zero_le _, by rw [hiI, if_neg (by omega), if_neg (by omega), if_pos (by omega)]; exact hv, rfl⟩
theorem newR_star {A : Nat → Int32} {n h : Nat} (v w y : Int32) (h1 : A 1 = nI n) (g : Rg n h A) (hh : h ≤ 9999) : NewR A (sStar A n v w y) := by
  unfold sStar
  by_cases c : (0 ≤ v ∧ v ≤ 7) ∧ ((w = 0 ∧ 0 ≤ y ∧ y ≤ 23) ∨ (w = 1 ∧ 0 ≤ y ∧ y ≤ 99))
  · rw [if_pos c]
    obtain ⟨a, a1, rfl⟩ := lit_in (m := 7) (by decide) c.1
    rw [nI_clamp (by omega)]
    rcases c.2 with ⟨rfl, d⟩ | ⟨rfl, d⟩
    · obtain ⟨q, q1, rfl⟩ := lit_in (m := 23) (by decide) d
      rw [show (0 : Int32).toNatClampNeg = 0 by decide]
      exact newR_up h1 g hh (by omega) (by omega) (by omega) (by omega) (by omega) (fun _ => ⟨q, by rw [loI, if_neg (by omega)]; exact Nat.zero_le _, by rw [hiI, if_neg (by omega), if_pos (by omega)]; exact q1, rfl⟩)
    · obtain ⟨q, q1, rfl⟩ := lit_in (m := 99) (by decide) d
      rw [show (1 : Int32).toNatClampNeg = 1 by decide, show 10 + 8 * 1 + a = 18 + a by omega]
      exact newR_up h1 g hh (by omega) (by omega) (by omega) (by omega) (by omega) (rg_st (by omega) q1)
  · rw [if_neg c]; exact newR_id h1 g hh
theorem newR_rule {A : Nat → Int32} {n h : Nat} (w y : Int32) (h1 : A 1 = nI n) (g : Rg n h A) (hh : h ≤ 9999) : NewR A (sRule A n w y) := by
  unfold sRule
  by_cases c : (w = 0 ∧ 0 ≤ y ∧ y ≤ 100) ∨ (w = 1 ∧ 0 ≤ y ∧ y ≤ 100) ∨ (w = 2 ∧ 0 ≤ y ∧ y ≤ 999)
  · rw [if_pos c]
    rcases c with ⟨rfl, d⟩ | ⟨rfl, d⟩ | ⟨rfl, d⟩
    · rw [show (0 : Int32).toNatClampNeg = 0 by decide]
      exact newR_up h1 g hh (by omega) (by omega) (by omega) (by omega) (by omega) (fun r => by rcases r with r | r <;> omega)
    · rw [show (1 : Int32).toNatClampNeg = 1 by decide]
      exact newR_up h1 g hh (by omega) (by omega) (by omega) (by omega) (by omega) (fun r => by rcases r with r | r <;> omega)
    · obtain ⟨q, q1, rfl⟩ := lit_in (m := 999) (by decide) d
      rw [show (2 : Int32).toNatClampNeg = 2 by decide]
      exact newR_up h1 g hh (by omega) (by omega) (by omega) (by omega) (by omega) (fun _ => ⟨q, Nat.zero_le _, q1, rfl⟩)
  · rw [if_neg c]; exact newR_id h1 g hh
theorem newR_chim {A : Nat → Int32} {n h : Nat} (b v : Int32) (h1 : A 1 = nI n) (g : Rg n h A) (hh : h ≤ 9999) : NewR A (sChim A n b v) := by
  unfold sChim
  by_cases c : (0 ≤ b ∧ b ≤ 23) ∧ (0 ≤ v ∧ v ≤ 1)
  · rw [if_pos c]
    by_cases d : A 9 >>> (b &&& 31) &&& 1 = v
    · rw [if_pos d]; exact newR_id h1 g hh
    · rw [if_neg d]
      exact newR_up h1 g hh (by omega) (by omega) (by omega) (by omega) (by omega) (fun r => by rcases r with r | r <;> omega)
  · rw [if_neg c]; exact newR_id h1 g hh
theorem jus_n (z : Int32) : jus z 8 = nI (uV z / 256) := uV_inj ((uV_j8 z).trans (pk_tn (by have := uV_lt z; omega)).symm)
theorem deal_rg {A : Nat → Int32} {n h : Nat} (h1 : A 1 = nI n) (g : Rg n h A) : ∀ k, n + k ≤ 8 → dealTo A n k 1 = nI (n + k) ∧ Rg (n + k) h (dealTo A n k) ∧ dealTo A n k 5 = A 5 ∧ tail66 A (dealTo A n k)
  | 0, _ => ⟨h1, g, rfl, tail66.rf A⟩
  | k + 1, hk => by
    obtain ⟨i1, i2, i3, i4⟩ := deal_rg h1 g k (by omega)
    simp only [dealTo]
    generalize dealTo A n k = B at i1 i2 i3 i4
    unfold drawF
    rw [jus_n, jus_n, jus_n]
    have z1 := uV_lt (nz1 (B 0))
    have z2 := uV_lt (nz1 (nz1 (B 0)))
    have z3 := uV_lt (nz1 (nz1 (nz1 (B 0))))
    rw [show jr (nI (uV (nz1 (B 0)) / 256)) 6 = nI (uV (nz1 (B 0)) / 256 % 6) from jr_n (d := 6) (by omega) (by decide) (by decide), show jr (nI (uV (nz1 (nz1 (B 0))) / 256)) 24 = nI (uV (nz1 (nz1 (B 0))) / 256 % 24) from jr_n (d := 24) (by omega) (by decide) (by decide), show jr (nI (uV (nz1 (nz1 (nz1 (B 0)))) / 256)) 12 = nI (uV (nz1 (nz1 (nz1 (B 0)))) / 256 % 12) from jr_n (d := 12) (by omega) (by decide) (by decide), nI_1]
    have l := comes_lo (A := upd B 0 (nz1 (nz1 (nz1 (B 0))))) (n := n + k) (k := nI (uV (nz1 (B 0)) / 256 % 6)) (f := nI (uV (nz1 (nz1 (B 0))) / 256 % 24)) (w := nI (uV (nz1 (nz1 (nz1 (B 0)))) / 256 % 12 + 1)) (by omega)
    refine ⟨l.1, comes_rg (n := n + k) (RgT.up9 i2 (Or.inl rfl)) (by omega) (by omega) (by omega) (by omega) (by omega), ?_, fun j hj => ?_⟩
    · rw [l.2.1, upd_ne (by decide)]; exact i3
    · rw [l.2.2 j hj, upd_ne (by omega)]; exact i4 j hj
theorem newR_deal {A : Nat → Int32} {n h : Nat} (v : Int32) (h1 : A 1 = nI n) (g : Rg n h A) (hh : h ≤ 9999) : NewR A (sDeal A n v) := by
  unfold sDeal
  have n8 := g.1
  by_cases c : 1 ≤ v ∧ v ≤ 8
  · rw [if_pos c]
    have d := deal_rg h1 g (min v.toNatClampNeg (8 - n)) (by omega)
    exact ⟨d.1, ⟨h, d.2.1, hh⟩, d.2.2.1, d.2.2.2⟩
  · rw [if_neg c]; exact newR_id h1 g hh
theorem newR_seed {A : Nat → Int32} {n h : Nat} (v : Int32) (h1 : A 1 = nI n) (g : Rg n h A) (hh : h ≤ 9999) : NewR A (A 0, upd A 0 v, n) :=
  newR_up h1 g hh (by omega) (by omega) (by omega) (by omega) (by omega) (fun r => by rcases r with r | r <;> omega)
theorem newR_hours {A : Nat → Int32} {n h : Nat} {lw : LawT} (v : Int32) (h1 : A 1 = nI n) (g : Rg n h A) (hh : h ≤ 9999) : NewR A (sHours lw A n h v) := by
  unfold sHours
  have n8 := g.1
  by_cases c : 1 ≤ v ∧ v ≤ 100
  · rw [if_pos c]
    obtain ⟨e, r⟩ := hours_eq (lw := lw) g (min v.toNatClampNeg (9999 - h)) (by omega)
    refine ⟨?_, ⟨_, r, by omega⟩, ?_, ?_⟩
    · show cHours lw n A _ 1 = _
      rw [cHours_lo (by decide) (by decide) (by decide) (by decide) (by decide) (by decide)]; exact h1
    · show cHours lw n A _ 5 = _
      rw [cHours_lo (by decide) (by decide) (by decide) (by decide) (by decide) (by decide)]
    · show tail66 A (cHours lw n A _)
      rw [← e]
      exact mHours_hi n8 _
  · rw [if_neg c]; exact newR_id h1 g hh
theorem pour_rg {c : Nat → Int32} {z n h : Nat} {A : Nat → Int32} (h1 : A 1 = nI n) (g : Rg n h A) : ∀ k, k ≤ 8 → (pourS c z A k).2 1 = nI n ∧ Rg n h (pourS c z A k).2 ∧ (pourS c z A k).2 5 = A 5 ∧ tail66 A (pourS c z A k).2
  | 0, _ => ⟨h1, g, rfl, tail66.rf A⟩
  | k + 1, hk => by
    obtain ⟨i1, i2, i3, i4⟩ := pour_rg (c := c) (z := z) h1 g k (by omega)
    simp only [pourS]
    by_cases d : k < z ∧ c k ≠ NONEi
    · rw [if_pos d]
      obtain ⟨q, q1, q2⟩ := clamp_in (c k) (m := 99) (by decide)
      have e : maxI 0 (minI 99 (c k)) = nI q := (held_clamp (by decide)).trans q2
      dsimp only
      rw [e]
      exact ⟨by rw [upd_ne (by omega)]; exact i1, RgT.up i2 (by omega) (by omega) (rg_st (by omega) q1), by rw [upd_ne (by omega)]; exact i3, i4.up (by omega)⟩
    · rw [if_neg d]
      exact ⟨i1, i2, i3, i4⟩
