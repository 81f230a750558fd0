/-! a law that is read: both sides work it out alike -/
theorem gd_facts {key : Nat} {x : Int32} (h : gd key x) : (x < -4 ↔ enc x < 0) ∧ (x = -33 ↔ enc x = -10) ∧ (¬ x < -4 → (x < 0 ↔ 10000 ≤ enc x) ∧ (x < 0 → (-1 - x).toNatClampNeg = (enc x - 10000).toNatClampNeg ∧ vp_in (enc x - 10000) 4 ∧ (¬ key = 0 → (-1 - x).toNatClampNeg < 2)) ∧ (¬ x < 0 → enc x = x)) ∧ (x < -4 → ¬ x = -33 → ∀ a b, cJoin (-x) a b = mTwo (enc x) a b) := by
  rcases h with ⟨q, hq, rfl⟩ | ⟨k, hk, rfl⟩ | rfl | hx
  · have e := enc_num hq
    have p : ¬ nI q < 0 := nI_pos (by omega)
    have n : ∀ v : Int32, v < 0 → ¬ nI q = v := fun v hv g => p (g ▸ hv)
    have lo := num_lo hq
    have t : ¬ (10000 : Int32) ≤ nI q := fun g => by
      have := (nI_leI (a := 10000) (b := q) (by decide) (by omega)).mp g
      omega
    rw [e]
    exact ⟨⟨fun g => absurd g lo, fun g => absurd g p⟩, ⟨fun g => absurd g (n _ (by decide)), fun g => absurd g (n _ (by decide))⟩, fun _ => ⟨⟨fun g => absurd g p, fun g => absurd g t⟩, fun g => absurd g p, fun _ => rfl⟩, fun g => absurd g lo⟩
  · have k4 : k < 4 := by split at hk <;> omega
    have e := enc_nm k k4
    have lo := nm_lo k k4
    have f1 : ∀ k, k < 4 → ¬ (10000 + nI k : Int32) < 0 ∧ ¬ (-1 - nI k : Int32) = -33 ∧ ¬ (10000 + nI k : Int32) = -10 ∧ (-1 - nI k : Int32) < 0 ∧ (10000 : Int32) ≤ 10000 + nI k ∧ (-1 - (-1 - nI k) : Int32).toNatClampNeg = k ∧ (10000 + nI k - 10000 : Int32).toNatClampNeg = k := by decide
    obtain ⟨g1, g2, g3, g4, g5, g6, g7⟩ := f1 k k4
    rw [e]
    refine ⟨⟨fun g => absurd g lo, fun g => absurd g g1⟩, ⟨fun g => absurd g g2, fun g => absurd g g3⟩, fun _ => ⟨⟨fun _ => g5, fun _ => g4⟩, fun _ => ⟨g6.trans g7.symm, ?_, fun k0 => ?_⟩, fun g => absurd g4 g⟩, fun g => absurd g lo⟩
    · have f2 : ∀ k, k < 4 → ¬ ((10000 + nI k - 10000 : Int32) < 0 ∨ 4 ≤ (10000 + nI k - 10000 : Int32).toNatClampNeg) := by decide
      exact f2 k k4
    · rw [g6]
      rw [if_neg k0] at hk
      exact hk
  · exact ⟨by decide, by decide, fun g => absurd (by decide) g, fun _ g => absurd rfl g⟩
  · have f : ∀ x, x ∈ sgL → (x < -4 ∧ enc x < 0) ∧ ¬ x = -33 ∧ ¬ enc x = -10 := by decide
    obtain ⟨⟨g1, g2⟩, g3, g4⟩ := f x hx
    refine ⟨⟨fun _ => g2, fun _ => g1⟩, ⟨fun g => absurd g g3, fun g => absurd g g4⟩, fun g => absurd g1 g, fun _ _ a b => ?_⟩
    unfold sgL at hx
    simp only [List.mem_cons, List.not_mem_nil, or_false] at hx
    rcases hx with rfl | rfl | rfl | rfl | rfl | rfl | rfl | rfl | rfl <;> rfl
theorem bk_run {key : Nat} {l : List Int32} (h : Bk key l) : ∀ k, k ≤ l.length → dpL (gDep (fun j => l.getD j 0) k) (l.drop k) = some 1
  | 0, _ => h.1 0
  | k + 1, hk => by
    have ih := bk_run h k (by omega)
    have e : l.drop k = l.getD k 0 :: l.drop (k + 1) := by
      rw [List.drop_eq_getElem_cons (by omega : k < l.length), List.getD_eq_getElem?_getD, List.getElem?_eq_getElem (by omega : k < l.length), Option.getD_some]
    rw [e] at ih
    simp only [dpL] at ih
    simp only [gDep]
    by_cases c1 : l.getD k 0 < -4
    · rw [if_pos c1] at ih ⊢
      by_cases c2 : l.getD k 0 = -33
      · rw [if_pos c2] at ih ⊢
        by_cases c3 : gDep (fun j => l.getD j 0) k < 1
        · rw [if_pos c3] at ih; cases ih
        · rw [if_neg c3] at ih; exact ih
      · rw [if_neg c2] at ih ⊢
        by_cases c3 : gDep (fun j => l.getD j 0) k < 2
        · rw [if_pos c3] at ih; cases ih
        · rw [if_neg c3] at ih; exact ih
    · rw [if_neg c1] at ih ⊢
      exact ih
theorem bk_wfc {key : Nat} {l : List Int32} (h : Bk key l) (hl : l.length ≤ 96) : WfC (fun j => l.getD j 0) l.length := by
  refine ⟨?_, hl, fun k hk c1 => ?_⟩
  · cases l with
    | nil => have := h.1 0; simp [dpL] at this
    | cons x l => exact Nat.succ_pos _
  · have ih := bk_run h k (by omega)
    have e : l.drop k = l.getD k 0 :: l.drop (k + 1) := by
      rw [List.drop_eq_getElem_cons (by omega : k < l.length), List.getD_eq_getElem?_getD, List.getElem?_eq_getElem (by omega : k < l.length), Option.getD_some]
    rw [e] at ih
    simp only [dpL] at ih
    dsimp only at c1 ⊢
    rw [if_pos c1] at ih
    constructor
    · intro c2
      rw [if_pos c2] at ih
      by_cases c3 : gDep (fun j => l.getD j 0) k < 1
      · rw [if_pos c3] at ih; cases ih
      · omega
    · intro c2
      rw [if_neg c2] at ih
      by_cases c3 : gDep (fun j => l.getD j 0) k < 2
      · rw [if_pos c3] at ih; cases ih
      · omega
theorem bk_gd {key : Nat} {l : List Int32} (h : Bk key l) {k : Nat} (hk : k < l.length) : gd key (l.getD k 0) := by
  rw [List.getD_eq_getElem?_getD, List.getElem?_eq_getElem hk, Option.getD_some]
  exact h.2 _ (List.getElem_mem hk)
theorem bk_two {key : Nat} {l : List Int32} (h : Bk key l) (k0 : ¬ key = 0) : Two (fun j => l.getD j 0) l.length := by
  intro k hk c1 c2
  exact (((gd_facts (bk_gd h hk)).2.2.1 c1).2.1 c2).2.2 k0
theorem bk_dep {key : Nat} {l : List Int32} (h : Bk key l) {s : Nat → Int32} (hs : ∀ k, k < l.length → s k = enc (l.getD k 0)) : ∀ k, k ≤ l.length → wDep s k = gDep (fun j => l.getD j 0) k
  | 0, _ => rfl
  | k + 1, hk => by
    have ih := bk_dep h hs k (by omega)
    have g := gd_facts (bk_gd h (k := k) (by omega))
    simp only [wDep, gDep]
    rw [hs k (by omega), ih]
    simp only [← g.1, ← g.2.1]
theorem bk_wfm {key : Nat} {l : List Int32} (h : Bk key l) (hl : l.length ≤ 96) {s : Nat → Int32} (hs : ∀ k, k < l.length → s k = enc (l.getD k 0)) : WfM s l.length := by
  have w := bk_wfc h hl
  refine ⟨w.1, hl, fun k hk => ?_⟩
  have g := gd_facts (bk_gd h hk)
  rw [hs k hk, bk_dep h hs k (by omega)]
  refine ⟨fun c1 => ?_, fun c1 => ?_⟩
  · have q := w.2.2 k hk (g.1.mpr c1)
    exact ⟨fun c2 => q.1 (g.2.1.mpr c2), fun c2 => q.2 (fun c3 => c2 (g.2.1.mp c3))⟩
  · have n : ¬ l.getD k 0 < -4 := fun z => by
      have := g.1.mp z
      exact absurd (Int32.lt_of_le_of_lt c1 this) (by decide)
    have f := g.2.2.1 n
    exact (f.2.1 (f.1.mpr c1)).2.1
theorem bk_eq {key : Nat} {l : List Int32} (h : Bk key l) (hl : l.length ≤ 96) {s : Nat → Int32} (hs : ∀ k, k < l.length → s k = enc (l.getD k 0)) (nm p : Nat → Int32) : ∀ k, k ≤ l.length → gRun nm (fun j => l.getD j 0) p k = wRun nm s p k
  | 0, _ => rfl
  | k + 1, hk => by
    have ih := bk_eq h hl hs nm p k (by omega)
    have w := bk_wfc h hl
    have dp := (gRun_wf w nm nm p p (fun _ _ => rfl) k (by omega)).1
    have dl := gDep_le (fun j => l.getD j 0) k
    have g := gd_facts (bk_gd h (k := k) (by omega))
    have wk := w.2.2 k (by omega)
    dsimp only at wk
    simp only [gRun, wRun]
    rw [hs k (by omega), ← ih]
    generalize gRun nm (fun j => l.getD j 0) p k = st at dp
    generalize l.getD k 0 = x at g wk
    obtain ⟨st1, st2⟩ := st
    dsimp only at dp
    unfold gStep wStep
    dsimp only
    by_cases c1 : x < -4
    · rw [if_pos c1, if_pos (g.1.mp c1)]
      by_cases c2 : x = -33
      · rw [if_pos c2, if_pos (g.2.1.mp c2), if_neg (by have := (wk c1).1 c2; omega)]
      · rw [if_neg c2, if_neg (fun z => c2 (g.2.1.mpr z)), if_neg (by have := (wk c1).2 c2; omega), g.2.2.2 c1 c2]
    · have f := g.2.2.1 c1
      rw [if_neg c1, if_neg (fun z => c1 (g.1.mpr z)), if_pos (by omega)]
      by_cases c3 : x < 0
      · rw [if_pos c3, if_pos (f.1.mp c3), (f.2.1 c3).1]
      · rw [if_neg c3, if_neg (fun z => c3 (f.1.mpr z)), f.2.2 c3]
theorem bk_law {key : Nat} {l : List Int32} (h : Bk key l) (hl : l.length ≤ 96) {s : Nat → Int32} (hs : ∀ k, k < l.length → s k = enc (l.getD k 0)) : lawF (fun j => l.getD j 0) l.length = lawM s l.length := by
  funext a b c d
  unfold lawF lawM
  rw [bk_eq h hl hs _ _ _ (Nat.le_refl _)]
