/-! the steps: laws, likeness, pouring; calls that change nothing -/
theorem tw3 {lim t n h c : Nat} {S : Sg} {m : Mem} {A : Nat → Int32} (q : TwQ lim S m t A n h c) {j : Nat} (hj : j < 10) : m t (tvF j) = A j := tv_0 q.1 hj (by omega)
theorem twA {lim t n h c : Nat} {S : Sg} {m : Mem} {A : Nat → Int32} (q : TwQ lim S m t A n h c) {a f : Nat} (hf : f < 5) (ha : a < n) : m (t + 9 + a) f = A (26 + 5 * a + f) := tv_A q.1 hf (by omega)
theorem st_fee {X : Xb} {S : Sg} {m : Mem} {x : Nat} (hI : Inv S m x) : CStep 3 0 0 6 fX6_fee fX7_fee X [] S m x := by
  obtain ⟨n, h, c, q⟩ := hI.2.1
  have n8 := q.2.2.1.1
  have T := q.2.2.2.2
  have e3 : m (x + 1) 8 = m (x + 88) 3 := tw3 q (j := 3) (by decide)
  have ef : fld (fun s i => s + m (x + 1 + 9 + i) 4) 0 n = fld (fun s i => s + m (x + 88) (26 + 5 * i + 4)) 0 n := fld_congr n (fun s i hi => by rw [twA q (f := 4) (by decide) hi])
  have k6 := ok_X6_fee (X := X) hI.1.1 (tw3 q (j := 1) (by decide) |>.trans q.2.1) n8 (txi_ok2 T (k := 1) (by decide) (by decide))
  rw [e3, ef] at k6
  refine stp_gen hI q (newR_id q.2.1 q.2.2.1 q.2.2.2.1) (k6.post (fun r S1 m1 hp => ⟨hp.1, Or.inl hp.2.1, tv_scr hp.2.2 q.1, fun a h1 h2 => hp.2.2 a (by omega) (by omega)⟩)) (fun S1 m1 hM fm => ?_)
  have e88 : m1 (x + 87 + 1) = m (x + 88) := fm _ (by omega)
  have k7 := ok_X7_fee (X := X) (mi := m1) hM (by rw [e88]; exact q.2.1) n8 (by rw [e88]; exact T.2.1) T.1 (by rw [e88]; exact txi_mt T)
  rw [e88, show (1 : Int32) = nI 1 from rfl, txi_24 T (k := 1) (by decide) (by decide)] at k7
  exact k7.post (fun r S2 m2 hp => ⟨hp.1, hp.2.1, (hp.2.2 _ (by omega) (by omega)).trans e88, fun a h1 h2 h3 h4 => hp.2.2 a (by omega) (by omega)⟩)
theorem st_fine {X : Xb} {S : Sg} {m : Mem} {x : Nat} (hI : Inv S m x) (v : Int32) : CStep 3 0 0 6 fX6_fine fX7_fine X [.int v] S m x := by
  obtain ⟨n, h, c, q⟩ := hI.2.1
  have n8 := q.2.2.1.1
  have T := q.2.2.2.2
  have k6 := ok_X6_fine (X := X) (v := v) hI.1.1 (tw3 q (j := 1) (by decide) |>.trans q.2.1) n8 (txi_ok2 T (k := 2) (by decide) (by decide))
  have e6 : (if 0 ≤ v ∧ v ≤ nI n - 1 then law2F (lwC S m (x + 1) 2) (m (x + 1 + 9 + v.toNatClampNeg) 4) (m (x + 1 + 9 + v.toNatClampNeg) 3) (m (x + 1 + 9 + v.toNatClampNeg) 4) else BADi) = (if 0 ≤ v ∧ v ≤ nI n - 1 then law2F (lwC S m (x + 1) 2) (m (x + 88) (26 + 5 * v.toNatClampNeg + 4)) (m (x + 88) (26 + 5 * v.toNatClampNeg + 3)) (m (x + 88) (26 + 5 * v.toNatClampNeg + 4)) else BADi) := by
    by_cases g : 0 ≤ v ∧ v ≤ nI n - 1
    · rw [if_pos g, if_pos g]
      obtain ⟨a, a1, rfl⟩ := att_in g n8
      rw [nI_clamp (by omega), twA q (f := 4) (by decide) a1, twA q (f := 3) (by decide) a1]
    · rw [if_neg g, if_neg g]
  rw [e6] at k6
  refine stp_gen hI q (newR_id q.2.1 q.2.2.1 q.2.2.2.1) (k6.post (fun r S1 m1 hp => ⟨hp.1, Or.inl hp.2.1, tv_scr hp.2.2 q.1, fun a h1 h2 => hp.2.2 a (by omega) (by omega)⟩)) (fun S1 m1 hM fm => ?_)
  have e88 : m1 (x + 87 + 1) = m (x + 88) := fm _ (by omega)
  have k7 := ok_X7_fine (X := X) (mi := m1) (v := v) hM (by rw [e88]; exact q.2.1) n8 (by rw [e88]; exact T.2.1) T.1 (by rw [e88]; exact txi_mt T)
  rw [e88, show (2 : Int32) = nI 2 from rfl, txi_24 T (k := 2) (by decide) (by decide)] at k7
  exact k7.post (fun r S2 m2 hp => ⟨hp.1, hp.2.1, (hp.2.2 _ (by omega) (by omega)).trans e88, fun a h1 h2 h3 h4 => hp.2.2 a (by omega) (by omega)⟩)
/-- a sheet's facts -/
theorem ivH_at {m : Mem} {x i : Nat} (h : IvH m x) (hi : i < 4) : (m (x + 101) i < 0 ↔ m (x + 59 + 2 * i) 1 = -1) ∧ (¬ m (x + 101) i < 0 → ∀ k, k < 24 → m (x + 59 + 2 * i + 1) k = m (x + 103) (24 * i + k)) := by
  obtain ⟨h1, _, h3⟩ := h i hi
  rw [h1]
  rcases h3 with g | ⟨g, k⟩
  · rw [g]
    exact ⟨⟨fun _ => rfl, fun _ => by decide⟩, fun z => absurd (by decide) z⟩
  · refine ⟨?_, fun _ => k⟩
    rcases g with g | g
    · rw [g]; decide
    · rw [g]; decide
theorem ivH_Z {m : Mem} {x : Nat} (h : IvH m x) : ShZ m x := fun i hi => by
  obtain ⟨z, h1, h2, _⟩ := (h i hi).2.1
  exact ⟨z, h1, h2⟩
theorem ivH_M {m : Mem} {x : Nat} (h : IvH m x) : MsZ m (x + 87) := fun i hi => by
  obtain ⟨z, h1, _, h2⟩ := (h i hi).2.1
  exact ⟨z, h1, h2⟩
theorem msz_c {m m1 : Mem} {x : Nat} (fm : ∀ a, x + 59 ≤ a → m1 a = m a) (h : MsZ m (x + 87)) : MsZ m1 (x + 87) := fun i hi => by
  rw [fm (x + 87 + 15) (by omega)]
  exact h i hi
theorem lkM_c {r : Nat → Nat → Int32} {c c' : Nat → Int32} {a : Nat} : ∀ z, (∀ k, k < z → c k = c' k) → lkM r c a z = lkM r c' a z
  | 0, _ => rfl
  | z + 1, h => by
    simp only [lkM]
    rw [lkM_c z (fun k hk => h k (by omega)), h z (by omega)]
theorem like_same {m m1 : Mem} {x n h : Nat} {A : Nat → Int32} {lw : LawT} (hH : IvH m x) (fm : ∀ a, x + 59 ≤ a → m1 a = m a) (g : Rg n h A) (hh : h ≤ 9999) (v w : Int32) : mLike m1 (x + 87) n A lw v w = cLike m x n A lw v w := by
  unfold mLike cLike
  rw [fm (x + 87 + 14) (by omega), fm (x + 87 + 15) (by omega), fm (x + 87 + 16) (by omega)]
  by_cases d : (0 ≤ v ∧ v ≤ 3) ∧ (0 ≤ w ∧ w ≤ 1)
  · rw [if_pos d, if_pos d]
    obtain ⟨i, hi, rfl⟩ := lit_in (m := 3) (by decide) d.1
    rw [nI_clamp (by omega)]
    obtain ⟨f1, f2⟩ := ivH_at hH (i := i) (by omega)
    obtain ⟨z, z1, z2, z3⟩ := (hH i (by omega)).2.1
    by_cases s : m (x + 87 + 14) i < 0
    · rw [if_pos s, if_pos (f1.mp s)]
    · rw [if_neg s, if_neg (fun t => s (f1.mpr t)), z2, show m (x + 87 + 15) i = nI z from z3, nI_clamp (by omega), ← like_eq (lw := lw) g hh (m (x + 59 + 2 * i + 1)) z1 w]
      exact lkV_congr (fun j hj => lkM_c z (fun k hk => (f2 s k (by omega)).symm)) w
  · rw [if_neg d, if_neg d]
theorem st_like {X : Xb} {S : Sg} {m : Mem} {x : Nat} (hI : Inv S m x) (v w : Int32) : CStep 6 0 0 7 fX6_like fX7_like X [.int v, .int w] S m x := by
  obtain ⟨n, h, c, q⟩ := hI.2.1
  have n8 := q.2.2.1.1
  have T := q.2.2.2.2
  have hH := hI.2.2.2.2.1
  have hl0 : lwC S m (x + 1) 0 = lwM (m (x + 88)) 0 c := txi_lw T (by decide)
  refine stp_gen hI q (newR_id q.2.1 q.2.2.1 q.2.2.2.1) ((ok_X6_like hI.1.1 (ivH_Z hH) n8 q.1 q.2.1 (txi_ok T (by decide)) hl0 T.2.2.1).post (fun r S1 m1 hp => PL.ce n8 q.1 hp)) (fun S1 m1 hM fm => ?_)
  have k7 := ok_X7_like (X := X) (v := v) (w := w) hM (msz_c fm (ivH_M hH)) n8 (fm _ (by omega)) q.2.1 T.2.1 T.1 (txi_mt T) rfl
  rw [like_same hH fm q.2.2.1 q.2.2.2.1] at k7
  exact k7.post (fun r S2 m2 hp => ⟨hp.1, hp.2.1, hp.2.2.1.trans (fm _ (by omega)), fun a h1 h2 h3 h4 => hp.2.2.2 a (by omega) (by omega) (by omega) (by omega) (by omega)⟩)
theorem mPour_c {c c' A : Nat → Int32} : ∀ z, (∀ k, k < z → c k = c' k) → mPourS c A z = mPourS c' A z
  | 0, _ => rfl
  | z + 1, h => by
    have e : ∀ B, mPourV c B z = mPourV c' B z := fun B => by unfold mPourV; rw [h z (by omega)]
    simp only [mPourS]
    rw [mPour_c z (fun k hk => h k (by omega)), e]
theorem pour_same {m m1 : Mem} {x n : Nat} {A : Nat → Int32} (hH : IvH m x) (fm : ∀ a, x + 59 ≤ a → m1 a = m a) (v : Int32) : mPour m1 (x + 87) A n v = cPour m x A n v := by
  unfold mPour cPour
  rw [fm (x + 87 + 14) (by omega), fm (x + 87 + 15) (by omega), fm (x + 87 + 16) (by omega)]
  by_cases d : 0 ≤ v ∧ v ≤ 3
  · rw [if_pos d, if_pos d]
    obtain ⟨i, hi, rfl⟩ := lit_in (m := 3) (by decide) d
    rw [nI_clamp (by omega)]
    obtain ⟨f1, f2⟩ := ivH_at hH (i := i) (by omega)
    obtain ⟨z, z1, z2, z3⟩ := (hH i (by omega)).2.1
    by_cases s : m (x + 87 + 14) i < 0
    · rw [if_pos s, if_pos (f1.mp s)]
    · rw [if_neg s, if_neg (fun t => s (f1.mpr t)), z2, show m (x + 87 + 15) i = nI z from z3, nI_clamp (by omega), pour_eq, mPour_c (c := fun k => m (x + 87 + 16) (24 * i + k)) (c' := m (x + 59 + 2 * i + 1)) (min z 8) (fun k hk => (f2 s k (by omega)).symm)]
  · rw [if_neg d, if_neg d]
theorem newR_pour {m : Mem} {x n h : Nat} {A : Nat → Int32} (v : Int32) (h1 : A 1 = nI n) (g : Rg n h A) (hh : h ≤ 9999) : NewR A (cPour m x A n v) := by
  unfold cPour
  by_cases d : 0 ≤ v ∧ v ≤ 3
  · rw [if_pos d]
    by_cases s : m (x + 59 + 2 * v.toNatClampNeg) 1 = -1
    · rw [if_pos s]; exact newR_id h1 g hh
    · rw [if_neg s]
      have p := pour_rg (c := m (x + 59 + 2 * v.toNatClampNeg + 1)) (z := (m (x + 59 + 2 * v.toNatClampNeg) 2).toNatClampNeg) h1 g 8 (Nat.le_refl 8)
      exact ⟨p.1, ⟨h, p.2.1, hh⟩, p.2.2.1, p.2.2.2⟩
  · rw [if_neg d]; exact newR_id h1 g hh
theorem st_pour {X : Xb} {S : Sg} {m : Mem} {x : Nat} (hI : Inv S m x) (v : Int32) : CStep 3 0 0 2 fX6_pour fX7_pour X [.int v] S m x := by
  obtain ⟨n, h, c, q⟩ := hI.2.1
  have hH := hI.2.2.2.2.1
  refine stp_gen hI q (newR_pour (m := m) (x := x) v q.2.1 q.2.2.1 q.2.2.2.1) ((ok_X6_pour hI.1.1 (ivH_Z hH) q.1).post (fun r S1 m1 hp => PS.ce hp)) (fun S1 m1 hM fm => ?_)
  have k7 := ok_X7_pour (X := X) (v := v) (n := n) hM (msz_c fm (ivH_M hH)) (fm (x + 87 + 1) (by omega))
  rw [pour_same hH fm] at k7
  exact k7.post (fun r S2 m2 hp => PM.me hp)
/-- calls that change nothing -/
theorem stp_id {d6 d7 : Nat} {f6 f7 : Fr} {X : Xb} {As : List Value} {S : Sg} {m : Mem} {x : Nat} {a : Int32} (hI : Inv S m x) (h6 : Ok d6 0 0 f6 X (rf X x :: As) S m (fun r S1 m1 => r = some (.int a) ∧ S1 = S ∧ m1 = m)) (h7 : Ok d7 0 0 f7 X (rf X (x + 87) :: As) S m (fun r S1 m1 => r = some (.int a) ∧ S1 = S ∧ m1 = m)) : CStep d6 0 0 d7 f6 f7 X As S m x := by
  refine h6.post (fun r S1 m1 hp => ?_)
  obtain ⟨p1, rfl, rfl⟩ := hp
  refine ⟨a, p1, hI.1.1.1, hI.1.2.1.1, h7.post (fun r2 S2 m2 hp2 => ?_)⟩
  obtain ⟨r1, rfl, rfl⟩ := hp2
  exact ⟨r1, hI, by omega⟩
theorem reads_same {m : Mem} {x n : Nat} {A : Nat → Int32} (hH : IvH m x) (v : Int32) : mReads m (x + 87) A n v = cReads m x A n v := by
  unfold mReads cReads
  by_cases d : 0 ≤ v ∧ v ≤ 3
  · rw [if_pos d, if_pos d]
    obtain ⟨i, hi, rfl⟩ := lit_in (m := 3) (by decide) d
    rw [nI_clamp (by omega)]
    obtain ⟨f1, f2⟩ := ivH_at hH (i := i) (by omega)
    obtain ⟨z, z1, z2, z3⟩ := (hH i (by omega)).2.1
    by_cases s : m (x + 87 + 14) i < 0
    · rw [if_pos s, if_pos (f1.mp s)]
    · rw [if_neg s, if_neg (fun t => s (f1.mpr t)), z2, show m (x + 87 + 15) i = nI z from z3, nI_clamp (by omega)]
      refine fnd_congr z 0 (fun k _ hk => ?_)
      unfold rdP
      rw [f2 s k (by omega)]
  · rw [if_neg d, if_neg d]
theorem st_reads {X : Xb} {S : Sg} {m : Mem} {x : Nat} (hI : Inv S m x) (v : Int32) : CStep 3 0 0 2 fX6_reads fX7_reads X [.int v] S m x := by
  obtain ⟨n, h, c, q⟩ := hI.2.1
  have hH := hI.2.2.2.2.1
  have k7 := ok_X7_reads (X := X) (S := S) (mi := m) (v := v) hI.1.2.1 (ivH_M hH) q.2.2.1.1 rfl q.2.1
  rw [reads_same hH] at k7
  exact stp_id hI (ok_X6_reads hI.1.1 (ivH_Z hH) q.2.2.1.1 q.1 q.2.1) k7
theorem st_why {X : Xb} {S : Sg} {m : Mem} {x : Nat} (hI : Inv S m x) (v : Int32) : CStep 1 0 0 1 fX6_why fX7_why X [.int v] S m x := by
  obtain ⟨n, h, c, q⟩ := hI.2.1
  have T := q.2.2.2.2
  have k7 := ok_X7_why (X := X) (S := S) (mi := m) (v := v) hI.1.2.1 T.2.1 T.1
  have e : (if 0 ≤ v ∧ v ≤ 2 then whyI (lastI (m (x + 87 + 1)) v c) else BADi) = (if 0 ≤ v ∧ v ≤ 2 then whyI (m (x + 6) v.toNatClampNeg) else BADi) := by
    by_cases d : 0 ≤ v ∧ v ≤ 2
    · rw [if_pos d, if_pos d]
      obtain ⟨i, hi, rfl⟩ := lit_in (m := 2) (by decide) d
      rw [nI_clamp (by omega), show m (x + 6) i = lastI (m (x + 88)) (nI i) c from T.2.2.2.2 i (by omega)]
    · rw [if_neg d, if_neg d]
  rw [e] at k7
  exact stp_id hI (ok_X6_why hI.1.1) k7
theorem st_textTold {X : Xb} {S : Sg} {m : Mem} {x : Nat} (hI : Inv S m x) (v w : Int32) : CStep 1 0 0 1 fX6_textTold fX7_textTold X [.int v, .int w] S m x := by
  obtain ⟨n, h, c, q⟩ := hI.2.1
  have T := q.2.2.2.2
  have k7 := ok_X7_textTold (X := X) (S := S) (mi := m) (v := v) (w := w) hI.1.2.1 rfl T.2.1 T.1
  have e := txi_told T v w
  rw [show m (x + 87 + 1) = m (x + 88) from rfl, e] at k7
  exact stp_id hI (ok_X6_textTold hI.1.1 (tw3 q (j := 5) (by decide) |>.trans T.2.1) T.1 (fun i hi => by obtain ⟨p, key, l, _, o⟩ := T.2.2.2.1 i hi; exact ⟨p, o.1, o.2.1.1⟩)) k7
theorem st_count {X : Xb} {S : Sg} {m : Mem} {x : Nat} (hI : Inv S m x) (v : Int32) : CStep 0 0 0 0 fX6_count fX7_count X [.int v] S m x := by
  obtain ⟨n, h, c, q⟩ := hI.2.1
  obtain ⟨w, w1, w2, w3, w4⟩ := hI.2.2.2.2.2.2.1
  obtain ⟨l, l1, l2, l3, l4⟩ := hI.2.2.2.1.1
  have k7 := ok_X7_count (X := X) (S := S) (mi := m) (v := v) hI.1.2.1
  have e : mCount m (x + 87) v = cCount m x v := by
    unfold mCount cCount
    rw [show m (x + 1) 3 = m (x + 88) 1 from tw3 q (j := 1) (by decide), show m (x + 1) 10 = m (x + 88) 2 from tw3 q (j := 2) (by decide), show m (x + 1) 8 = m (x + 88) 3 from tw3 q (j := 3) (by decide), show m (x + 1) 9 = m (x + 88) 4 from tw3 q (j := 4) (by decide), show m (x + 1) 13 = m (x + 88) 5 from tw3 q (j := 5) (by decide), show m (x + 1) 11 = m (x + 88) 0 from tw3 q (j := 0) (by decide), w2, w3, l2, l3]
  rw [e] at k7
  exact stp_id hI (ok_X6_count hI.1.1) k7
