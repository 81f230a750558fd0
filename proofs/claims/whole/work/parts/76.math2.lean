/-! both sides: steps, signs, names -/
def enc (v : Int32) : Int32 := if v = -124 then -1 else if v = -38 then -2 else if v = -60 then -3 else if v = -61 then -4 else if v = -62 then -5 else if v = -43 then -6 else if v = -45 then -7 else if v = -42 then -8 else if v = -47 then -9 else if v = -33 then -10 else if v < 0 then 9999 - v else v
theorem sg_c (c : Int32) : (sgM 3 c = 0 ∧ rnkI c = -1) ∨ (sgM 3 c = enc (-c) ∧ ¬ sgM 3 c = 0 ∧ ¬ sgM 3 c = -10 ∧ ¬ sgM 3 c = -11 ∧ rkM (sgM 3 c) = rnkI c + 1 ∧ ∃ r, r < 5 ∧ rnkI c = nI r) := by
  by_cases h : c = 38 ∨ c = 42 ∨ c = 43 ∨ c = 45 ∨ c = 47 ∨ c = 60 ∨ c = 61 ∨ c = 62 ∨ c = 124
  · right
    rcases h with rfl | rfl | rfl | rfl | rfl | rfl | rfl | rfl | rfl
    · exact ⟨by decide, by decide, by decide, by decide, by decide, 1, by decide, by decide⟩
    · exact ⟨by decide, by decide, by decide, by decide, by decide, 4, by decide, by decide⟩
    · exact ⟨by decide, by decide, by decide, by decide, by decide, 3, by decide, by decide⟩
    · exact ⟨by decide, by decide, by decide, by decide, by decide, 3, by decide, by decide⟩
    · exact ⟨by decide, by decide, by decide, by decide, by decide, 4, by decide, by decide⟩
    · exact ⟨by decide, by decide, by decide, by decide, by decide, 2, by decide, by decide⟩
    · exact ⟨by decide, by decide, by decide, by decide, by decide, 2, by decide, by decide⟩
    · exact ⟨by decide, by decide, by decide, by decide, by decide, 2, by decide, by decide⟩
    · exact ⟨by decide, by decide, by decide, by decide, by decide, 0, by decide, by decide⟩
  · left
    simp only [not_or] at h
    obtain ⟨h1, h2, h3, h4, h5, h6, h7, h8, h9⟩ := h
    constructor
    · rw [sgM, if_pos rfl, if_neg h1, if_neg h2, if_neg h3, if_neg h4, if_neg h5, if_neg h6, if_neg h7, if_neg h8, if_neg h9]
    · rw [rnkI, if_neg h1, if_neg h2, if_neg h3, if_neg h4, if_neg h5, if_neg h6, if_neg h7, if_neg h8, if_neg h9]
theorem tr_tok {b : Nat → Int32} {P : Ps} {G : Gt} (h : TR b P G) {n : Nat} (h2 : n ≠ 2) (h4 : n ≠ 4) : G.2.2.1 = n ↔ P.1.2.2 = n := by
  rw [h.2.2.1]
  split
  · rename_i c
    have := c.1
    omega
  · exact Iff.rfl
theorem tr_km {b : Nat → Int32} {P : Ps} {G : Gt} (h : TR b P G) (w : Nat) : kmB b G w = hrB b P w := by
  unfold kmB hrB
  rw [← h.1, ← h.2.1]
  by_cases c : P.1.2.2 = 1
  · have g := (tr_tok h (n := 1) (by decide) (by decide)).mpr c
    simp only [c, g, true_and]
  · have g : ¬ G.2.2.1 = 1 := fun q => c ((tr_tok h (n := 1) (by decide) (by decide)).mp q)
    simp only [c, g, false_and, if_false]
theorem tr_key {b : Nat → Int32} {P : Ps} {G : Gt} (h : TR b P G) : keyM b G = keyH b P := by
  unfold keyM keyH
  rw [tr_km h, tr_km h, tr_km h]
/-- the class's sign here, the model's -/
theorem tr_sgn {b : Nat → Int32} {len : Nat} {P : Ps} {G : Gt} (h : TR b P G) (hl : P.1.2.2 = 3 → P.1.1 < len) : (P.1.2.2 = 3 ∧ G.2.2.1 = 3 ∧ sgn b len P = b P.1.1 ∧ G.2.2.2.1 = b P.1.1) ∨ (¬ P.1.2.2 = 3 ∧ ¬ G.2.2.1 = 3 ∧ sgn b len P = -1) := by
  by_cases c : P.1.2.2 = 3
  · exact Or.inl ⟨c, (tr_tok h (by decide) (by decide)).mpr c, by rw [sgn, if_pos ⟨c, hl c⟩], h.2.2.2.2.2 c⟩
  · exact Or.inr ⟨c, fun g => c ((tr_tok h (by decide) (by decide)).mp g), by rw [sgn, if_neg (fun g => c g.1)]⟩
theorem tr_sg {b : Nat → Int32} {len : Nat} {P : Ps} {G : Gt} (h : TR b P G) (hl : P.1.2.2 = 3 → P.1.1 < len) (hG : G.2.2.1 ≤ 4) : (sgM (nI G.2.2.1) G.2.2.2.1 = 0 ∧ rnkI (sgn b len P) = -1) ∨ (sgM (nI G.2.2.1) G.2.2.2.1 = enc (-(sgn b len P)) ∧ ¬ sgM (nI G.2.2.1) G.2.2.2.1 = 0 ∧ ¬ sgM (nI G.2.2.1) G.2.2.2.1 = -10 ∧ ¬ sgM (nI G.2.2.1) G.2.2.2.1 = -11 ∧ rkM (sgM (nI G.2.2.1) G.2.2.2.1) = rnkI (sgn b len P) + 1 ∧ ∃ r, r < 5 ∧ rnkI (sgn b len P) = nI r) := by
  rcases tr_sgn h hl with ⟨_, h2, h3, h4⟩ | ⟨_, h2, h3⟩
  · rw [h2, h3, h4]
    exact sg_c _
  · rw [h3]
    refine Or.inl ⟨?_, by decide⟩
    have n3 : ¬ nI G.2.2.1 = 3 := fun g => h2 ((nI_eq (a := G.2.2.1) (b := 3) (by omega) (by decide)).mp g)
    rw [sgM, if_neg n3]
/-- a part: the same on both sides -/
theorem tr_part {b : Nat → Int32} {len key : Nat} {P : Ps} {G : Gt} (h : TR b P G) (hb : Pb len P) (hk : key < 3) : tpB key G = true ↔ ((P.1.2.2 = 2 ∧ P.1.2.1 - P.1.1 ≤ 4) ∨ (P.1.2.2 = 1 ∧ ¬ nmH b len key P < 0)) := by
  have e2 : G.2.2.1 = 2 ↔ (P.1.2.2 = 2 ∧ P.1.2.1 - P.1.1 ≤ 4) := by
    rw [h.2.2.1]
    split
    · rename_i c
      exact ⟨fun g => absurd g (by decide), fun g => absurd c.2 (by omega)⟩
    · rename_i c
      exact ⟨fun g => ⟨g, Nat.le_of_not_lt (fun q => c ⟨g, q⟩)⟩, fun g => g.1⟩
  have e1 := tr_tok h (n := 1) (by decide) (by decide)
  have hn : P.1.2.2 = 1 → ((G.1 - G.2.1 = 1 ∧ ¬ nmM (nI key) G.2.2.2.1 < 0) ↔ ¬ nmH b len key P < 0) := by
    intro c
    rw [h.2.2.2.1 c, ← h.1, ← h.2.1, nm_ix key hk, nmH]
    by_cases d : P.1.2.1 - P.1.1 = 1
    · have := hb.2.1
      rw [if_pos ⟨d, by omega⟩]
      exact ⟨fun g => g.2, fun g => ⟨d, g⟩⟩
    · rw [if_neg (fun g => d g.1)]
      exact ⟨fun g => absurd g.1 d, fun g => absurd (by decide) g⟩
  unfold tpB
  simp only [Bool.or_eq_true, Bool.and_eq_true, Bool.not_eq_true', decide_eq_true_eq, decide_eq_false_iff_not]
  rw [e2, e1]
  constructor
  · rintro (g | ⟨⟨g1, g2⟩, g3⟩)
    · exact Or.inl g
    · exact Or.inr ⟨g1, (hn g1).mp ⟨g2, g3⟩⟩
  · rintro (g | ⟨g1, g2⟩)
    · exact Or.inl g
    · exact Or.inr ⟨⟨g1, ((hn g1).mpr g2).1⟩, ((hn g1).mpr g2).2⟩
/-- what waits above W, all of rank at least: it goes out whole, and W stays -/
theorem setF_app (least : Int32) : ∀ (pend C W : List Int32), (∀ w, w ∈ pend → ¬ w = -11 ∧ ¬ rkM w < least) → (∀ w V, W = w :: V → w = -11 ∨ rkM w < least) → setF least C (pend ++ W) = (C ++ pend, W)
  | [], C, W, _, hW => by
    rw [List.nil_append, List.append_nil]
    cases W with
    | nil => rfl
    | cons w V => rw [setF, if_pos (hW w V rfl)]
  | w :: pend, C, W, hp, hW => by
    have h := hp w (List.mem_cons_self ..)
    rw [List.cons_append, setF, if_neg (fun g => g.elim h.1 h.2), setF_app least pend (C ++ [w]) W (fun v hv => hp v (List.mem_cons_of_mem _ hv)) hW, List.append_assoc, List.singleton_append]
theorem skW_all {b : Nat → Int32} {len s : Nat} : ∀ f p q, p ≤ q → q < skW b len s f p → srtN b len q = s
  | 0, p, q, h1, h2 => by simp only [skW] at h2; omega
  | f + 1, p, q, h1, h2 => by
    simp only [skW] at h2
    split at h2
    · rename_i c
      by_cases e : q = p
      · rw [e]; exact c.2
      · exact skW_all f (p + 1) q (by omega) h2
    · omega
def tkD (b : Nat → Int32) (len : Nat) (P : Ps) : Prop := P.1.2.2 = 2 → ∀ q, P.1.1 ≤ q → q < P.1.2.1 → srtN b len q = 2
theorem tkD_adv {b : Nat → Int32} {len : Nat} (P : Ps) : tkD b len (adv b len P) := by
  unfold tkD adv
  dsimp only
  generalize skB b len (len - P.1.2.1) P.1.2.1 = bg
  unfold advS
  split
  · intro g; exact absurd g (by dsimp only; decide)
  · split
    · intro g; exact absurd g (by dsimp only; decide)
    · dsimp only
      split
      · intro g; exact absurd g (by decide)
      · intro g q h1 h2
        rw [g] at h2
        exact skW_all _ _ _ h1 h2
theorem srt2_in {b : Nat → Int32} {len p : Nat} (h : srtN b len p = 2) : 48 ≤ b p ∧ b p ≤ 57 := by
  unfold srtN at h
  split at h
  · split at h
    · exact absurd h (by decide)
    · split at h
      · assumption
      · exact absurd h (by decide)
  · exact absurd h (by decide)
theorem num_in {b : Nat → Int32} {bg : Nat} : ∀ n, n ≤ 4 → (∀ k, k < n → 48 ≤ b (bg + k) ∧ b (bg + k) ≤ 57) → ∃ q, q < 10 ^ n ∧ numF b bg n = nI q
  | 0, _, _ => ⟨0, by decide, rfl⟩
  | n + 1, hn, h => by
    obtain ⟨q, hq, e⟩ := num_in n (by omega) (fun k hk => h k (by omega))
    obtain ⟨d1, d2⟩ := h n (by omega)
    obtain ⟨d, hd, ed⟩ := nI_of (Int32.not_lt.mpr (Int32.le_trans (by decide) d1))
    rw [ed] at d1 d2
    have g1 := (nI_leI (a := 48) (by decide) hd).mp d1
    have g2 := (nI_leI (b := 57) hd (by decide)).mp d2
    refine ⟨q * 10 + (d - 48), by rw [Nat.pow_succ]; omega, ?_⟩
    rw [numF, e, ed]
    show nI q * nI 10 + nI d - nI 48 = _
    rw [nI_mul, nI_add, pk_sub (by omega)]
    congr 1
    omega
theorem enc_num {q : Nat} (h : q < 10000) : enc (nI q) = nI q := by
  have p : ¬ nI q < 0 := nI_pos (by omega)
  have n : ∀ v : Int32, v < 0 → ¬ nI q = v := fun v hv g => p (g ▸ hv)
  rw [enc, if_neg (n _ (by decide)), if_neg (n _ (by decide)), if_neg (n _ (by decide)), if_neg (n _ (by decide)), if_neg (n _ (by decide)), if_neg (n _ (by decide)), if_neg (n _ (by decide)), if_neg (n _ (by decide)), if_neg (n _ (by decide)), if_neg (n _ (by decide)), if_neg p]
theorem enc_nm : ∀ k, k < 4 → enc (-1 - nI k) = 10000 + nI k := by decide
theorem nm_in {key : Nat} (hk : key < 3) (c : Int32) (h : ¬ nmM (nI key) c < 0) : ∃ k, k < 4 ∧ nmM (nI key) c = nI k := by
  have h3 : key = 0 ∨ key = 1 ∨ key = 2 := by omega
  unfold nmM at h ⊢
  rcases h3 with rfl | rfl | rfl
  · rw [if_pos (by decide)] at h ⊢
    repeat' split
    · exact ⟨0, by decide, rfl⟩
    · exact ⟨1, by decide, rfl⟩
    · exact ⟨2, by decide, rfl⟩
    · exact ⟨3, by decide, rfl⟩
    · rename_i a1 a2 a3 a4
      rw [if_neg a1, if_neg a2, if_neg a3, if_neg a4] at h
      exact absurd (by decide) h
  · rw [if_neg (by decide), if_pos (by decide)] at h ⊢
    repeat' split
    · exact ⟨0, by decide, rfl⟩
    · exact ⟨1, by decide, rfl⟩
    · rename_i a1 a2
      rw [if_neg a1, if_neg a2] at h
      exact absurd (by decide) h
  · rw [if_neg (by decide), if_neg (by decide)] at h ⊢
    repeat' split
    · exact ⟨0, by decide, rfl⟩
    · exact ⟨1, by decide, rfl⟩
    · rename_i a1 a2
      rw [if_neg a1, if_neg a2] at h
      exact absurd (by decide) h
