/-! calls, both sides: what is answered is the same, where the row is in its ranges -/
theorem att_in {v : Int32} {n : Nat} (h : 0 ≤ v ∧ v ≤ nI n - 1) (hn : n ≤ 8) : ∃ a, a < n ∧ v = nI a := by
  obtain ⟨j, hj, rfl⟩ := nI_of (x := v) (Int32.not_lt.mpr h.1)
  cases n with
  | zero =>
    have h2 := Int32.le_iff_toInt_le.mp h.2
    rw [nI_toInt hj, show (nI 0 - 1).toInt = -1 by decide] at h2
    omega
  | succ n =>
    have h2 := h.2
    rw [nI_pred] at h2
    have := (nI_leI hj (by omega)).mp h2
    exact ⟨j, by omega, rfl⟩
theorem lit_in {v : Int32} {m : Nat} (hm : m < 2 ^ 31) (h : 0 ≤ v ∧ v ≤ nI m) : ∃ a, a ≤ m ∧ v = nI a := by
  obtain ⟨j, hj, rfl⟩ := nI_of (x := v) (Int32.not_lt.mpr h.1)
  exact ⟨j, (nI_leI hj hm).mp h.2, rfl⟩
theorem lit_in1 {v : Int32} {m : Nat} (hm : m < 2 ^ 31) (h : 1 ≤ v ∧ v ≤ nI m) : ∃ a, 1 ≤ a ∧ a ≤ m ∧ v = nI a := by
  obtain ⟨j, hj, rfl⟩ := lit_in hm ⟨Int32.le_trans (show (0 : Int32) ≤ 1 by decide) h.1, h.2⟩
  exact ⟨j, (nI_leI (a := 1) (by decide) (by omega)).mp h.1, hj, rfl⟩
theorem told_eq {n h : Nat} {A : Nat → Int32} {lw : LawT} (g : Rg n h A) (hh : h ≤ 10300) (v w : Int32) : mTold lw A n v w = sTold lw A n v w := by
  unfold mTold sTold
  by_cases c : 0 ≤ v ∧ v ≤ nI n - 1
  · rw [if_pos c, if_pos c]
    obtain ⟨a, ha, rfl⟩ := att_in c g.1
    have n8 := g.1
    rw [nI_clamp (by omega)]
    obtain ⟨q, _, q1, q2⟩ := rg_width g ha
    rw [rent_eq g (by omega) ha, see_eq g (by omega) ha, q2, wide_eq q1]
  · rw [if_neg c, if_neg c]
theorem starOf_eq {n h : Nat} {A : Nat → Int32} (g : Rg n h A) (hh : h ≤ 10300) (v w : Int32) : mStarOf A n v w = sStarOf A n v w := by
  have n8 := g.1
  have e : fld (fun s i => s ||| (if rSees A i >>> (v &&& 31) &&& 1 = 1 then 1 <<< (nI i &&& 31) else 0)) 0 n = fld (fun s i => s ||| ((rSee A i >>> (v &&& 31) &&& 1) <<< (nI i &&& 31))) 0 n := by
    refine fld_congr n (fun s k hk => ?_)
    rw [see_eq g (by omega) hk]
    rcases bit_01 (rSee A k >>> (v &&& 31)) with e | e
    · rw [e, if_neg (by decide), shl_0 (by omega)]
    · rw [e, if_pos rfl]
  unfold mStarOf sStarOf
  rw [e]
theorem chim_eq (A : Nat → Int32) (n : Nat) (b v : Int32) : mChim A n b v = sChim A n b v := by
  unfold mChim sChim
  by_cases c : (0 ≤ b ∧ b ≤ 23) ∧ (0 ≤ v ∧ v ≤ 1)
  · rw [if_pos c, if_pos c]
    obtain ⟨k, hk, rfl⟩ := lit_in (m := 23) (by decide) c.1
    obtain ⟨i, hi, rfl⟩ := lit_in (m := 1) (by decide) c.2
    have k32 : k < 32 := by omega
    have h01 : i = 0 ∨ i = 1 := by omega
    by_cases t : bt (A 9) k = true
    · have e := (bit_1 k32 (A 9)).mpr t
      rw [e]
      rcases h01 with rfl | rfl
      · rw [if_neg (by decide), if_neg (by decide), xor_off k32 t]
      · rw [if_pos (by decide), if_pos (by decide), or_on k32 t, upd_id]
    · have e := (bit_0 k32 (A 9)).mpr t
      rw [e]
      rcases h01 with rfl | rfl
      · rw [if_neg (by decide), if_pos (by decide), and_off k32 t, upd_id]
      · rw [if_pos (by decide), if_neg (by decide), xor_on k32 t]
  · rw [if_neg c, if_neg c]
theorem hoursS_eq {n h : Nat} {A : Nat → Int32} {lw : LawT} (g : Rg n h A) (hh : h ≤ 9999) (v : Int32) : mHoursS lw A n h v = sHours lw A n h v := by
  unfold mHoursS sHours
  by_cases c : 1 ≤ v ∧ v ≤ 100
  · rw [if_pos c, if_pos c, (hours_eq (lw := lw) g (min v.toNatClampNeg (9999 - h)) (by omega)).1]
  · rw [if_neg c, if_neg c]
theorem dark_fld {f f' : Nat → Int32} : ∀ n, (∀ i, i < n → f i = f' i) → fld (fun s i => s &&& (f i ^^^ (-1))) 255 n = 255 &&& (fld (fun s i => s ||| f' i) 0 n ^^^ (-1))
  | 0, _ => by
    show (255 : Int32) = 255 &&& (0 ^^^ (-1))
    decide
  | n + 1, h => by
    simp only [fld]
    rw [dark_fld n (fun i hi => h i (by omega)), h n (by omega), demorgan]
theorem town_eq {n h : Nat} {A : Nat → Int32} {lw : LawT} (g : Rg n h A) (hh : h ≤ 10300) (w : Int32) : mTown lw A n w = sTown lw A n w := by
  have e5 := dark_fld (f := fun i => rSees A i) (f' := fun i => rSee A i) n (fun i hi => see_eq g (by omega) hi)
  have e6 : fld (fun s i => s + mRent lw A i) 0 n = fld (fun s i => s + rRent lw A i) 0 n := fld_congr n (fun s k hk => by rw [rent_eq g (by omega) hk])
  unfold mTown sTown
  rw [jBits_pop, e6]
  rw [e5]
theorem view_eq {f f' : Nat → Int32} {n : Nat} (h : ∀ i, i < n → f i = f' i) (j : Int32) : viewM f n j = viewSet f' n j := by
  unfold viewM viewSet
  refine fld_congr n (fun s k hk => ?_)
  by_cases c : j >>> (nI k &&& 31) &&& 1 = 1
  · rw [if_pos c, if_pos c, h k hk]
  · rw [if_neg c, if_neg c, or_zero]
theorem cov_eq {f f' : Nat → Int32} {n : Nat} (h : ∀ i, i < n → f i = f' i) (stars : Int32) : ∀ s, s ≤ 256 → (covC f' n stars s).1 = covM f n stars s ∧ ((covM f n stars s = NONEi ∧ (covC f' n stars s).2 = 9) ∨ (∃ t, t < 256 ∧ covM f n stars s = nI t ∧ (covC f' n stars s).2 = popI (nI t)))
  | 0, _ => ⟨rfl, Or.inl ⟨rfl, rfl⟩⟩
  | s + 1, hs => by
    obtain ⟨i1, i2⟩ := cov_eq h stars s (by omega)
    have ps : pcN s ≤ 8 := pcN_le 8 s (by omega)
    have es : popI (nI s) = nI (pcN s) := by rw [popI, show uV (nI s) = s from pk_tn (by omega)]
    simp only [covC, covM]
    rw [view_eq h, jBits_pop]
    have hc : (popI (nI s) < (covC f' n stars s).2 ∧ stars &&& (viewSet f' n (nI s) ^^^ (-1)) = 0) ↔ (stars &&& (viewSet f' n (nI s) ^^^ (-1)) = 0 ∧ (covM f n stars s = NONEi ∨ popI (nI s) < popI (covM f n stars s))) := by
      rcases i2 with ⟨a1, a2⟩ | ⟨t, a0, a1, a2⟩
      · rw [a2, a1, es]
        have l : nI (pcN s) < 9 := (nI_ltI (b := 9) (by omega) (by decide)).mpr (by omega)
        exact ⟨fun g => ⟨g.2, Or.inl rfl⟩, fun g => ⟨l, g.1⟩⟩
      · rw [a2, a1]
        have nn : ¬ nI t = NONEi := fun g => nI_pos (n := t) (by omega) (g ▸ (by decide : (NONEi : Int32) < 0))
        exact ⟨fun g => ⟨g.2, Or.inr g.1⟩, fun g => ⟨g.2.resolve_left nn, g.1⟩⟩
    by_cases c : popI (nI s) < (covC f' n stars s).2 ∧ stars &&& (viewSet f' n (nI s) ^^^ (-1)) = 0
    · rw [if_pos c, if_pos (hc.mp c)]
      exact ⟨rfl, Or.inr ⟨s, by omega, rfl, rfl⟩⟩
    · rw [if_neg c, if_neg (fun g => c (hc.mpr g))]
      exact ⟨i1, i2⟩
theorem cover_eq {n h : Nat} {A : Nat → Int32} (g : Rg n h A) (hh : h ≤ 10300) (v : Int32) : mCover A n v = sCover A n v := by
  have n8 := g.1
  have p : 2 ^ n ≤ 256 := Nat.pow_le_pow_right (n := 2) (by decide) n8
  unfold mCover sCover
  rw [(cov_eq (f := fun i => rSees A i) (f' := fun i => rSee A i) (n := n) (fun i hi => see_eq g (by omega) hi) v (2 ^ n) p).1]
theorem behind_eq {n h : Nat} {A : Nat → Int32} {lw : LawT} (g : Rg n h A) (hh : h ≤ 9999) (v w : Int32) : mBehind lw A n v w = sBehind lw A n v w := by
  have n8 := g.1
  have hc : ((0 ≤ w ∧ w ≤ 2) ∨ (0 ≤ w - 3 ∧ w - 3 ≤ nI n - 1)) ↔ (0 ≤ w ∧ w ≤ 2 + nI n) := by
    rw [show (2 : Int32) + nI n = nI (2 + n) from nI_add 2 n]
    constructor
    · rintro (c | c)
      · obtain ⟨p, hp, rfl⟩ := lit_in (m := 2) (by decide) c
        exact ⟨nI_pos' (by omega), (nI_leI (by omega) (by omega)).mpr (by omega)⟩
      · obtain ⟨p, hp, e⟩ := att_in c n8
        have ew : w = nI (p + 3) := by
          rw [← nI_add, ← e]
          show w = w - 3 + 3
          rw [Int32.sub_add_cancel]
        rw [ew]
        exact ⟨nI_pos' (by omega), (nI_leI (by omega) (by omega)).mpr (by omega)⟩
    · intro c
      obtain ⟨p, hp, rfl⟩ := lit_in (m := 2 + n) (by omega) c
      by_cases p2 : p ≤ 2
      · exact Or.inl ⟨c.1, (nI_leI (b := 2) (by omega) (by decide)).mpr p2⟩
      · have e : nI p - 3 = nI (p - 3) := pk_sub (a := p) (b := 3) (by omega)
        rw [e]
        refine Or.inr ⟨nI_pos' (by omega), ?_⟩
        rw [show nI n - 1 = nI (n - 1) from nI_sub1 (by omega)]
        exact (nI_leI (by omega) (by omega)).mpr (by omega)
  unfold mBehind sBehind
  by_cases c : (0 ≤ v ∧ v ≤ 100) ∧ (0 ≤ w ∧ w ≤ 2 + nI n)
  · rw [if_pos c, if_pos ⟨c.1, hc.mpr c.2⟩]
    obtain ⟨k, hk, rfl⟩ := lit_in (m := 100) (by decide) c.1
    have cw := c.2
    rw [show (2 : Int32) + nI n = nI (2 + n) from nI_add 2 n] at cw
    obtain ⟨p, hp, rfl⟩ := lit_in (m := 2 + n) (by omega) cw
    rw [nI_clamp (n := k) (by omega), nI_clamp (n := p) (by omega), (hours_eq (lw := lw) g k (by omega)).1]
    generalize cHours lw n A k = B
    unfold mBeh
    by_cases p0 : p = 0
    · subst p0; rfl
    · rw [if_neg (show ¬ nI p = (0 : Int32) from fun z => p0 ((nI_eq (b := 0) (by omega) (by decide)).mp z))]
      by_cases p1 : p = 1
      · subst p1; rfl
      · rw [if_neg (show ¬ nI p = (1 : Int32) from fun z => p1 ((nI_eq (b := 1) (by omega) (by decide)).mp z)), if_neg (by omega)]
        by_cases p2 : p = 2
        · subst p2
          rw [if_pos rfl, if_pos (show nI 2 = (2 : Int32) from rfl), jBits_pop]
        · rw [if_neg (show ¬ nI p = (2 : Int32) from fun z => p2 ((nI_eq (b := 2) (by omega) (by decide)).mp z)), if_neg p2, show nI p - 3 = nI (p - 3) from pk_sub (a := p) (b := 3) (by omega), nI_clamp (by omega)]
  · rw [if_neg c, if_neg (fun z => c ⟨z.1, hc.mp z.2⟩)]
theorem fnd_congr {p q : Nat → Bool} : ∀ f k, (∀ i, k ≤ i → i < k + f → p i = q i) → fndK p f k = fndK q f k
  | 0, _, _ => rfl
  | f + 1, k, h => by
    simp only [fndK]
    rw [h k (Nat.le_refl k) (by omega), fnd_congr f (k + 1) (fun i h1 h2 => h i (by omega) (by omega))]
theorem debt_eq {n h : Nat} {A : Nat → Int32} {lw : LawT} (g : Rg n h A) (hh : h ≤ 9999) (v y : Int32) : mDebt lw A n v y = sDebt lw A n v y := by
  unfold mDebt sDebt
  by_cases c : (0 ≤ v ∧ v ≤ nI n - 1) ∧ (0 ≤ y ∧ y ≤ 9999)
  · rw [if_pos c, if_pos c]
    refine fnd_congr 201 0 (fun i _ h2 => ?_)
    rw [(hours_eq (lw := lw) g i (by omega)).1]
  · rw [if_neg c, if_neg c]
theorem rises_eq {n h : Nat} {A : Nat → Int32} {lw : LawT} (g : Rg n h A) (hh : h ≤ 9999) (v y : Int32) : mRises lw A n v y = sRises lw A n v y := by
  unfold mRises sRises
  by_cases c : (0 ≤ v ∧ v ≤ nI n - 1) ∧ (0 ≤ y ∧ y ≤ 7)
  · rw [if_pos c, if_pos c]
    have n8 := g.1
    obtain ⟨a, ha, rfl⟩ := att_in c.1 n8
    rw [nI_clamp (by omega)]
    refine fnd_congr 201 0 (fun i _ h2 => ?_)
    obtain ⟨e, r⟩ := hours_eq (lw := lw) g i (by omega)
    rw [e, see_eq r (by omega) ha]
    rcases bit_01 (rSee (cHours lw n A i) a >>> (y &&& 31)) with e | e
    · rw [e]; decide
    · rw [e]; decide
  · rw [if_neg c, if_neg c]
