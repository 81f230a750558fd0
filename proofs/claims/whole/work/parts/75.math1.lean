/-! both sides: small equalities; words and signs -/
theorem held_clamp {v hi : Int32} (h : 0 ≤ hi) : maxI 0 (minI hi v) = clampI v 0 hi := by
  have z : (0 : Int32).toInt = 0 := by decide
  have h' := Int32.le_iff_toInt_le.mp h
  rw [z] at h'
  clear h
  unfold maxI minI clampI
  apply Int32.toInt_inj.mp
  by_cases c1 : v < hi
  · rw [if_pos c1]
    repeat' split
    all_goals (simp only [Int32.lt_iff_toInt_lt] at * <;> omega)
  · rw [if_neg c1]
    repeat' split
    all_goals (simp only [Int32.lt_iff_toInt_lt] at * <;> omega)
theorem pour_eq (c : Nat → Int32) (z : Nat) (A : Nat → Int32) : ∀ k, pourS c z A k = mPourS c A (min z k)
  | 0 => by rw [Nat.min_zero]; rfl
  | k + 1 => by
    have ih := pour_eq c z A k
    by_cases h : k < z
    · rw [show min z (k + 1) = k + 1 by omega]
      rw [show min z k = k by omega] at ih
      simp only [pourS, mPourS]
      rw [ih]
      by_cases hc : c k = NONEi
      · rw [if_neg (fun g => g.2 hc), mPourV, if_pos hc, if_pos rfl, upd_id, Int32.add_zero]
      · rw [if_pos ⟨h, hc⟩, mPourV, if_neg hc, held_clamp (by decide)]
        by_cases hv : clampI (c k) 0 99 = (mPourS c A k).2 (18 + k)
        · rw [if_pos hv, if_pos hv.symm]
        · rw [if_neg hv, if_neg (fun g => hv g.symm)]
    · rw [show min z (k + 1) = min z k by omega, ← ih]
      simp only [pourS]
      rw [if_neg (fun g => h g.1)]
theorem abs_off (x : Int32) : offI (-x) = absI x := by
  have z : (0 : Int32).toInt = 0 := by decide
  have lo := Int32.le_toInt x
  have hi := Int32.toInt_lt x
  have en := Int32.toInt_neg x
  unfold offI absI
  by_cases c : 0 ≤ x
  · have c' := Int32.le_iff_toInt_le.mp c
    rw [z] at c'
    rw [Int.bmod_eq_of_le (by omega) (by omega)] at en
    rw [if_pos c]
    by_cases d : 0 ≤ -x
    · have d' := Int32.le_iff_toInt_le.mp d
      rw [z] at d'
      rw [if_pos d]
      apply Int32.toInt_inj.mp
      omega
    · rw [if_neg d, Int32.neg_neg]
  · rw [if_neg c, Int32.zero_sub]
    have c' : ¬ 0 ≤ x.toInt := fun g => c (Int32.le_iff_toInt_le.mpr (by rw [z]; exact g))
    by_cases d : 0 ≤ -x
    · rw [if_pos d]
    · rw [if_neg d, Int32.neg_neg]
      have d' : ¬ 0 ≤ (-x).toInt := fun g => d (Int32.le_iff_toInt_le.mpr (by rw [z]; exact g))
      apply Int32.toInt_inj.mp
      by_cases e : x.toInt = -2147483648
      · rw [en, e]; decide
      · rw [Int.bmod_eq_of_le (by omega) (by omega)] at en
        omega
theorem lk_eq {r r' : Nat → Nat → Int32} {c : Nat → Int32} {a : Nat} : ∀ z, (∀ k, k < z → r k a = r' k a) → lkD r c a z = lkM r' c a z
  | 0, _ => rfl
  | z + 1, h => by
    simp only [lkD, lkM]
    rw [lk_eq z (fun k hk => h k (by omega)), h z (by omega), ← abs_off, show -(r' z a - c z) = c z - r' z a from Int32.neg_sub]
theorem num_eq (b : Nat → Int32) (fm : Nat) : ∀ k, k ≤ 4 → mnF b fm k = numF b fm k
  | 0, _ => rfl
  | k + 1, h => by
    simp only [mnF, numF]
    rw [if_pos (by omega), num_eq b fm k (by omega), Int32.mul_comm]
theorem nm_ix (key : Nat) (hk : key < 3) (c : Int32) : nmM (nI key) c = ixF (3 + key) c (sN (3 + key)) 0 := by
  have h : key = 0 ∨ key = 1 ∨ key = 2 := by omega
  rcases h with rfl | rfl | rfl
  · show (if c = 112 then (0 : Int32) else if c = 110 then 1 else if c = 104 then 2 else if c = 119 then 3 else -1) = (if (112 : Int32) = c then nI 0 else if (110 : Int32) = c then nI 1 else if (104 : Int32) = c then nI 2 else if (119 : Int32) = c then nI 3 else -1)
    simp only [eq_comm (a := c)]
    rfl
  · show (if c = 116 then (0 : Int32) else if c = 111 then 1 else -1) = (if (116 : Int32) = c then nI 0 else if (111 : Int32) = c then nI 1 else -1)
    simp only [eq_comm (a := c)]
    rfl
  · show (if c = 99 then (0 : Int32) else if c = 111 then 1 else -1) = (if (99 : Int32) = c then nI 0 else if (111 : Int32) = c then nI 1 else -1)
    simp only [eq_comm (a := c)]
    rfl
/-- the class's word or sign, the model's -/
def TR (b : Nat → Int32) (P : Ps) (G : Gt) : Prop := P.1.1 = G.2.1 ∧ P.1.2.1 = G.1 ∧ G.2.2.1 = (if P.1.2.2 = 2 ∧ 4 < P.1.2.1 - P.1.1 then 4 else P.1.2.2) ∧ (P.1.2.2 = 1 → G.2.2.2.1 = b P.1.1) ∧ (P.1.2.2 = 2 → P.1.2.1 - P.1.1 ≤ 4 → G.2.2.2.1 = numF b P.1.1 (P.1.2.1 - P.1.1)) ∧ (P.1.2.2 = 3 → G.2.2.2.1 = b P.1.1)
def edOk (P : Ps) (G : Gt) : Prop := (isW P.1.2.2 = true ∧ G.2.2.2.2 = nI P.1.2.1) ∨ (isW P.1.2.2 = false ∧ ∀ p, P.1.2.1 ≤ p → p ≤ 96 → ¬ nI p = G.2.2.2.2)
theorem srt_0 {b : Nat → Int32} {len p : Nat} (h : p ≤ len) : srtN b len p = 0 ↔ p = len := by
  unfold srtN
  by_cases c : p < len
  · rw [if_pos c]
    refine ⟨fun g => ?_, fun g => by omega⟩
    split at g
    · simp at g
    · split at g <;> simp at g
  · rw [if_neg c]
    exact ⟨fun _ => by omega, fun _ => rfl⟩
theorem adv_go {b : Nat → Int32} {len : Nat} {P : Ps} {G : Gt} (hP : P.1.2.1 ≤ len) (hl : len ≤ 96) (e : P.1.2.1 = G.1) (hed : edOk P G) : TR b (adv b len P) (goS b len G) ∧ ((adv b len P).1.2.2 ≠ 4 → (adv b len P).1.2.2 ≠ 0 → edOk (adv b len P) (goS b len G)) := by
  have gb := skB_le (b := b) (len := len) (len - P.1.2.1) P.1.2.1 hP
  unfold adv goS
  rw [← e]
  generalize skB b len (len - P.1.2.1) P.1.2.1 = bg at gb
  have hc : nI bg = G.2.2.2.2 ↔ (isW P.1.2.2 && decide (bg = P.1.2.1)) = true := by
    rcases hed with ⟨h1, h2⟩ | ⟨h1, h2⟩
    · rw [h1, h2, Bool.true_and, decide_eq_true_eq]
      exact nI_eq (by omega) (by omega)
    · rw [h1, Bool.false_and]
      exact ⟨fun g => absurd g (h2 bg gb.1 (by omega)), fun g => by cases g⟩
  have hfar : ∀ p, bg + 1 ≤ p → p ≤ 96 → ¬ nI p = G.2.2.2.2 := by
    intro p h1 h2 h3
    rcases hed with ⟨g1, g2⟩ | ⟨g1, g2⟩
    · rw [g2] at h3
      have := (nI_eq (by omega) (by omega)).mp h3
      omega
    · exact g2 p (by omega) h2 h3
  have step : ∀ s, s ≠ 0 → srtN b len bg = s → bg < skW b len s (len - bg) bg ∧ skW b len s (len - bg) bg ≤ len := by
    intro s hs0 hs
    have hlt : bg < len := srtN_lt (b := b) (by omega)
    obtain ⟨k, hk⟩ : ∃ k, len - bg = k + 1 := ⟨len - bg - 1, by omega⟩
    rw [hk]
    simp only [skW]
    rw [if_pos ⟨hlt, hs⟩]
    have := skW_le (b := b) (len := len) (s := s) k (bg + 1) (by omega)
    omega
  have s3 := srtN_le b len bg
  have h0 := srt_0 (b := b) gb.2
  by_cases c0 : bg = len
  · have z := h0.mpr c0
    have ea : advS b len (isW P.1.2.2) P.1.2.1 bg = (bg, bg, 0) := by rw [advS, z, if_neg (by decide), if_pos rfl]
    have eg : gosF b len bg G.2.2.2.1 G.2.2.2.2 = (bg, bg, 0, G.2.2.2.1, G.2.2.2.2) := by rw [gosF, if_pos c0]
    rw [ea, eg]
    exact ⟨⟨rfl, rfl, rfl, fun g => absurd g (by dsimp only; decide), fun g => absurd g (by dsimp only; decide), fun g => absurd g (by dsimp only; decide)⟩, fun _ g => absurd rfl g⟩
  · have n0 : srtN b len bg ≠ 0 := fun g => c0 (h0.mp g)
    have cs : srtN b len bg = 1 ∨ srtN b len bg = 2 ∨ srtN b len bg = 3 := by omega
    rcases cs with c | c | c
    · obtain ⟨w1, w2⟩ := step 1 (by decide) c
      have ea : advS b len (isW P.1.2.2) P.1.2.1 bg = (bg, skW b len 1 (len - bg) bg, if (isW P.1.2.2 && decide (bg = P.1.2.1)) = true then 4 else 1) := by rw [advS, c, if_neg (by decide), if_neg (by decide)]
      have eg : gosF b len bg G.2.2.2.1 G.2.2.2.2 = (skW b len 1 (len - bg) bg, bg, (if nI bg = G.2.2.2.2 then 4 else 1), b bg, nI (skW b len 1 (len - bg) bg)) := by rw [gosF, if_neg c0, if_pos c]
      rw [ea, eg]
      generalize skW b len 1 (len - bg) bg = nx at w1 w2
      by_cases hw : (isW P.1.2.2 && decide (bg = P.1.2.1)) = true
      · rw [if_pos hw, if_pos (hc.mpr hw)]
        exact ⟨⟨rfl, rfl, (if_neg (fun g => absurd g.1 (by dsimp only; decide))).symm, fun g => absurd g (by dsimp only; decide), fun g => absurd g (by dsimp only; decide), fun g => absurd g (by dsimp only; decide)⟩, fun g => absurd rfl g⟩
      · rw [if_neg hw, if_neg (fun g => hw (hc.mp g))]
        exact ⟨⟨rfl, rfl, (if_neg (fun g => absurd g.1 (by dsimp only; decide))).symm, fun _ => rfl, fun g => absurd g (by dsimp only; decide), fun g => absurd g (by dsimp only; decide)⟩, fun _ _ => Or.inl ⟨rfl, rfl⟩⟩
    · obtain ⟨w1, w2⟩ := step 2 (by decide) c
      have ea : advS b len (isW P.1.2.2) P.1.2.1 bg = (bg, skW b len 2 (len - bg) bg, if (isW P.1.2.2 && decide (bg = P.1.2.1)) = true then 4 else 2) := by rw [advS, c, if_neg (by decide), if_neg (by decide)]
      have eg : gosF b len bg G.2.2.2.1 G.2.2.2.2 = (skW b len 2 (len - bg) bg, bg, (if nI bg = G.2.2.2.2 ∨ 4 < skW b len 2 (len - bg) bg - bg then 4 else 2), mnF b bg (skW b len 2 (len - bg) bg - bg), nI (skW b len 2 (len - bg) bg)) := by rw [gosF, if_neg c0, if_neg (by rw [c]; decide), if_pos c]
      rw [ea, eg]
      generalize skW b len 2 (len - bg) bg = nx at w1 w2
      by_cases hw : (isW P.1.2.2 && decide (bg = P.1.2.1)) = true
      · rw [if_pos hw, if_pos (Or.inl (hc.mpr hw))]
        exact ⟨⟨rfl, rfl, (if_neg (fun g => absurd g.1 (by dsimp only; decide))).symm, fun g => absurd g (by dsimp only; decide), fun g => absurd g (by dsimp only; decide), fun g => absurd g (by dsimp only; decide)⟩, fun g => absurd rfl g⟩
      · rw [if_neg hw]
        by_cases c4 : 4 < nx - bg
        · rw [if_pos (Or.inr c4)]
          exact ⟨⟨rfl, rfl, (if_pos ⟨rfl, c4⟩).symm, fun g => absurd g (by dsimp only; decide), fun _ g => absurd c4 (Nat.not_lt.mpr g), fun g => absurd g (by dsimp only; decide)⟩, fun _ _ => Or.inl ⟨rfl, rfl⟩⟩
        · rw [if_neg (fun g => g.elim (fun g => hw (hc.mp g)) c4)]
          exact ⟨⟨rfl, rfl, (if_neg (fun g => c4 g.2)).symm, fun g => absurd g (by dsimp only; decide), fun _ g => num_eq b bg _ g, fun g => absurd g (by dsimp only; decide)⟩, fun _ _ => Or.inl ⟨rfl, rfl⟩⟩
    · have ea : advS b len (isW P.1.2.2) P.1.2.1 bg = (bg, bg + 1, 3) := by rw [advS, c, if_pos rfl]
      have eg : gosF b len bg G.2.2.2.1 G.2.2.2.2 = (bg + 1, bg, 3, b bg, G.2.2.2.2) := by rw [gosF, if_neg c0, if_neg (by rw [c]; decide), if_neg (by rw [c]; decide)]
      rw [ea, eg]
      exact ⟨⟨rfl, rfl, (if_neg (fun g => absurd g.1 (by dsimp only; decide))).symm, fun g => absurd g (by dsimp only; decide), fun g => absurd g (by dsimp only; decide), fun _ => rfl⟩, fun _ _ => Or.inr ⟨rfl, hfar⟩⟩
