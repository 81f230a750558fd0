/-! the beginning: all holds -/
theorem nowR_lo : ∀ j, j < 10 → nowR 8 j = row0 (tvF j) := by decide
theorem nowR_st {j : Nat} (h1 : 10 ≤ j) (h2 : j < 18) : nowR 8 j = nI (3 * (j - 10)) := by
  simp only [nowR]
  rw [if_pos ⟨h1, h2⟩]
theorem nowR_pr {j : Nat} (h1 : 18 ≤ j) (h2 : j < 26) : nowR 8 j = 5 := by
  simp only [nowR]
  rw [if_neg (by omega), if_pos ⟨h1, h2⟩]
theorem nowR_hi {j : Nat} (h1 : 26 ≤ j) : nowR 8 j = 0 := by
  simp only [nowR, upd]
  rw [if_neg (by omega), if_neg (by omega), if_neg (by omega), if_neg (by omega), if_neg (by omega)]
theorem nowR_rg : Rg 0 0 (nowR 8) := by
  refine ⟨Nat.zero_le 8, by decide, ⟨0, Nat.zero_le _, by decide⟩, fun j hj => ?_⟩
  rcases hj with e | ⟨e1, e2⟩
  · subst e
    exact ⟨50, by decide, by decide, by decide⟩
  · by_cases c : j < 18
    · exact ⟨3 * (j - 10), by rw [loI, if_neg (by omega)]; exact Nat.zero_le _, by rw [hiI, if_neg (by omega), if_pos (by omega)]; omega, nowR_st e1 c⟩
    · exact ⟨5, by rw [loI, if_neg (by omega)]; exact Nat.zero_le _, by rw [hiI, if_neg (by omega), if_neg c, if_pos (by omega)]; omega, nowR_pr (by omega) (by omega)⟩
theorem keysR_F : ∀ j, j < 11 → keysR j = keysF j := by decide
theorem katR_F : ∀ j, j < 4 → katR j = nI (katN j) := by decide
theorem srtR_1 : ∀ j, j < 4 → srtR j = -1 := by decide
theorem tw_ini {S : Sg} {m : Mem} {t : Nat} (h : TwI S m t) : TwQ (t + 109) S m t (nowR 8) 0 0 0 := by
  obtain ⟨h1, h2, h3, h4⟩ := h
  refine ⟨fun j hj => ?_, by decide, nowR_rg, Nat.zero_le _, Nat.zero_le _, by decide, fun i hi p hp => ?_, fun i hi => absurd hi (Nat.not_lt_zero i), fun k hk => h3 k hk⟩
  · simp only [tv]
    by_cases c0 : j < 10
    · rw [if_pos c0, h1, nowR_lo j c0]
    · rw [if_neg c0]
      by_cases c1 : j < 18
      · rw [if_pos c1, nowR_st (by omega) c1, (h2 (j - 10) (by omega)).1]
      · rw [if_neg c1, if_pos (show j < 26 by omega), nowR_pr (by omega) (by omega), (h2 (j - 18) (by omega)).2]
  · rw [h4 i hi] at hp
    cases hp
theorem inv_ini {S0 S1 S3 : Sg} {m0 m1 m3 : Mem} {x : Nat} (hA : AsP S0 m0 x S1 m1) (hM : MiP (nwS S1 7 0) (nwM S1 m1) (x + 87) S3 m3) : Inv S3 m3 x := by
  obtain ⟨a1, a2, a3, a4, a5, a6, a7, a8, a9, a10, a11⟩ := hA
  obtain ⟨b1, b2, b3, b4, b5⟩ := hM
  have n1 : (nwS S1 7 0).1 = x + 88 := by show S1.1 + 1 = _; omega
  have sx : SgX x S1 S3 := ⟨by omega, fun i c z k => b3.kd (Kd_nw k), fun a ha _ _ _ => by
    rw [b3.2.2 a (by omega) (by omega)]
    funext j
    exact nw_r ha j⟩
  have rr : ∀ a, a < x + 87 → S3.2.2 a = S1.2.2 a := fun a ha => by
    rw [b3.2.2 a (by omega) (by omega)]
    funext j
    exact nw_r (by omega) j
  have fm : ∀ a, a < x + 87 → m3 a = m1 a := fun a ha => by rw [b4 a (by omega), nw_m (by omega)]
  have f87 : m3 (x + 87) = fun _ => 0 := by
    rw [b4 (x + 87) (by omega), ← a1]
    exact nwM_0 S1 m1
  have fx : m3 x = fun _ => 0 := (fm x (by omega)).trans a5
  have f88 : m3 (x + 88) = nowR 8 := b5 0 (by decide)
  have f89 : m3 (x + 89) = fun _ => 0 := b5 1 (by decide)
  have f94 : m3 (x + 94) = keysR := b5 6 (by decide)
  have f95 : m3 (x + 95) = katR := b5 7 (by decide)
  have f101 : m3 (x + 101) = srtR := b5 13 (by decide)
  have f102 : m3 (x + 102) = fun _ => 0 := b5 14 (by decide)
  have f104 : m3 (x + 104) = fun _ => 0 := b5 16 (by decide)
  refine ⟨⟨sx.as a2, b2, by omega⟩, ⟨0, 0, 0, ?_⟩, ⟨by rw [fx, f87], Or.inl (by rw [fx])⟩, ⟨⟨0, Nat.zero_le _, ?_, ?_, fun j hj => absurd hj (Nat.not_lt_zero j)⟩, fun j hj => ?_, fun j hj => ?_⟩, fun i hi => ?_, fun i hi => ?_, ⟨0, Nat.zero_le _, by rw [fx]; rfl, by rw [f87]; rfl, fun i hi => absurd hi (Nat.not_lt_zero i)⟩, fun j hj => ⟨by rw [f88]; exact nowR_hi (by omega), by rw [f89]⟩⟩
  · rw [f88]
    have k := tw_ini (a6.keep (Z := S3) (n := m3) (fun a ha => fm a (by omega)) (rr _ (by omega)))
    rw [show x + 1 + 109 = x + 110 from rfl] at k
    exact k
  · rw [fm (x + 52) (by omega), a9]; rfl
  · rw [f87]; rfl
  · rw [f94]; exact keysR_F j hj
  · rw [f95]; exact katR_F j hj
  · have g := a10 i hi
    refine ⟨?_, ⟨0, Nat.zero_le _, ?_, ?_⟩, Or.inl ?_⟩
    · rw [fm _ (by omega), f101, srtR_1 i hi]; exact g.1
    · rw [fm _ (by omega)]; exact g.2
    · rw [f102]; rfl
    · rw [f101]; exact srtR_1 i hi
  · have g := a11 i hi
    refine ⟨?_, ⟨0, Nat.zero_le _, ?_⟩, fun h => ?_, fun h => ?_, fun h => ?_⟩
    · rw [fm _ (by omega), f104]; exact g.1
    · rw [fm _ (by omega)]; exact g.2
    · rw [f104] at h; exact absurd (show (0 : Int32) = 1 from h) (by decide)
    · rw [f104] at h; exact absurd (show (0 : Int32) = 2 from h) (by decide)
    · rw [f104] at h; exact absurd (show (0 : Int32) = 3 from h) (by decide)
