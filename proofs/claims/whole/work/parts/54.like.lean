/-! the object: like -/
theorem tx_congr {S : Sg} {mi m : Mem} {t j : Nat} (h5 : m (t + 5) = mi (t + 5)) (far : ∀ p len, TxA S p len → m (p + 1) = mi (p + 1)) (h : TxOk S mi t j) : TxOk S m t j ∧ lwC S m t j = lwC S mi t j := by
  have etx : txOf S m t j = txOf S mi t j := by unfold txOf; rw [h5]
  refine ⟨fun p hp => ?_, ?_⟩
  · rw [etx] at hp
    obtain ⟨len, h1, h2⟩ := h p hp
    exact ⟨len, h1, by rw [far p len h1]; exact h2⟩
  · have e : ∀ p, txOf S mi t j = some p → m (p + 1) = mi (p + 1) := fun p hp => by
      obtain ⟨len, h1, -⟩ := h p hp
      exact far p len h1
    unfold lwC
    rw [etx]
    generalize txOf S mi t j = q at e
    cases q with
    | none => rw [Option.map_none, Option.map_none]
    | some p => rw [Option.map_some, Option.map_some, e p rfl]
def absI (x : Int32) : Int32 := if 0 ≤ x then x else 0 - x
theorem absI_eq (x : Int32) : (if 0 ≤ x then x else 0 - x) = absI x := rfl
def lkD (r : Nat → Nat → Int32) (c : Nat → Int32) (a : Nat) : Nat → Int32
  | 0 => 0
  | k + 1 => if c k = NONEi then lkD r c a k else lkD r c a k + absI (r k a - c k)
def lkR (lw : LawT) (n : Nat) (A : Nat → Int32) (k a : Nat) : Int32 := rRent lw (cHours lw n A k) a
def LkJ (S1 : Sg) (mi : Mem) (x n : Nat) (A : Nat → Int32) (lw : LawT) (k : Nat) (m : Mem) : Prop := eqOn (26 + 5 * n) (tv m (x + 18)) (cHours lw n A k) ∧ (∀ a, (a < x + 18 ∨ x + 35 ≤ a) → a ≠ x + 58 → m a = mi a) ∧ TxOk S1 m (x + 18) 0 ∧ lwC S1 m (x + 18) 0 = lw
theorem dX6_measureDifferences_0 : decode fX6_measureDifferences.2.1 0 = .ok (.iconst 0, 1) := by decide +kernel
theorem dX6_measureDifferences_1 : decode fX6_measureDifferences.2.1 1 = .ok (.istore_n 2, 1) := by decide +kernel
theorem dX6_measureDifferences_2 : decode fX6_measureDifferences.2.1 2 = .ok (.iload_n 2, 1) := by decide +kernel
theorem dX6_measureDifferences_3 : decode fX6_measureDifferences.2.1 3 = .ok (.bipush 8, 2) := by decide +kernel
theorem dX6_measureDifferences_5 : decode fX6_measureDifferences.2.1 5 = .ok (.if_icmp .ge 16, 3) := by decide +kernel
theorem dX6_measureDifferences_8 : decode fX6_measureDifferences.2.1 8 = .ok (.aload_n 0, 1) := by decide +kernel
theorem dX6_measureDifferences_9 : decode fX6_measureDifferences.2.1 9 = .ok (.getfield 45, 3) := by decide +kernel
theorem dX6_measureDifferences_12 : decode fX6_measureDifferences.2.1 12 = .ok (.iload_n 2, 1) := by decide +kernel
theorem dX6_measureDifferences_13 : decode fX6_measureDifferences.2.1 13 = .ok (.iconst 0, 1) := by decide +kernel
theorem dX6_measureDifferences_14 : decode fX6_measureDifferences.2.1 14 = .ok (.iastore, 1) := by decide +kernel
theorem dX6_measureDifferences_15 : decode fX6_measureDifferences.2.1 15 = .ok (.iinc 2 1, 3) := by decide +kernel
theorem dX6_measureDifferences_18 : decode fX6_measureDifferences.2.1 18 = .ok (.goto (-16), 3) := by decide +kernel
theorem dX6_measureDifferences_21 : decode fX6_measureDifferences.2.1 21 = .ok (.aload_n 0, 1) := by decide +kernel
theorem dX6_measureDifferences_22 : decode fX6_measureDifferences.2.1 22 = .ok (.getfield 16, 3) := by decide +kernel
theorem dX6_measureDifferences_25 : decode fX6_measureDifferences.2.1 25 = .ok (.aload_n 0, 1) := by decide +kernel
theorem dX6_measureDifferences_26 : decode fX6_measureDifferences.2.1 26 = .ok (.getfield 10, 3) := by decide +kernel
theorem dX6_measureDifferences_29 : decode fX6_measureDifferences.2.1 29 = .ok (.invokevirtual 178, 3) := by decide +kernel
theorem dX6_measureDifferences_32 : decode fX6_measureDifferences.2.1 32 = .ok (.iconst 0, 1) := by decide +kernel
theorem dX6_measureDifferences_33 : decode fX6_measureDifferences.2.1 33 = .ok (.istore_n 2, 1) := by decide +kernel
theorem dX6_measureDifferences_34 : decode fX6_measureDifferences.2.1 34 = .ok (.iload_n 2, 1) := by decide +kernel
theorem dX6_measureDifferences_35 : decode fX6_measureDifferences.2.1 35 = .ok (.aload_n 1, 1) := by decide +kernel
theorem dX6_measureDifferences_36 : decode fX6_measureDifferences.2.1 36 = .ok (.getfield 261, 3) := by decide +kernel
theorem dX6_measureDifferences_39 : decode fX6_measureDifferences.2.1 39 = .ok (.if_icmp .ge 78, 3) := by decide +kernel
theorem dX6_measureDifferences_42 : decode fX6_measureDifferences.2.1 42 = .ok (.aload_n 1, 1) := by decide +kernel
theorem dX6_measureDifferences_43 : decode fX6_measureDifferences.2.1 43 = .ok (.iload_n 2, 1) := by decide +kernel
theorem dX6_measureDifferences_44 : decode fX6_measureDifferences.2.1 44 = .ok (.invokevirtual 255, 3) := by decide +kernel
theorem dX6_measureDifferences_47 : decode fX6_measureDifferences.2.1 47 = .ok (.ifCond .eq 57, 3) := by decide +kernel
theorem dX6_measureDifferences_50 : decode fX6_measureDifferences.2.1 50 = .ok (.iconst 0, 1) := by decide +kernel
theorem dX6_measureDifferences_51 : decode fX6_measureDifferences.2.1 51 = .ok (.istore_n 3, 1) := by decide +kernel
theorem dX6_measureDifferences_52 : decode fX6_measureDifferences.2.1 52 = .ok (.iload_n 3, 1) := by decide +kernel
theorem dX6_measureDifferences_53 : decode fX6_measureDifferences.2.1 53 = .ok (.aload_n 0, 1) := by decide +kernel
theorem dX6_measureDifferences_54 : decode fX6_measureDifferences.2.1 54 = .ok (.getfield 16, 3) := by decide +kernel
theorem dX6_measureDifferences_57 : decode fX6_measureDifferences.2.1 57 = .ok (.getfield 130, 3) := by decide +kernel
theorem dX6_measureDifferences_60 : decode fX6_measureDifferences.2.1 60 = .ok (.if_icmp .ge 44, 3) := by decide +kernel
theorem dX6_measureDifferences_63 : decode fX6_measureDifferences.2.1 63 = .ok (.aload_n 0, 1) := by decide +kernel
theorem dX6_measureDifferences_64 : decode fX6_measureDifferences.2.1 64 = .ok (.getfield 45, 3) := by decide +kernel
theorem dX6_measureDifferences_67 : decode fX6_measureDifferences.2.1 67 = .ok (.iload_n 3, 1) := by decide +kernel
theorem dX6_measureDifferences_68 : decode fX6_measureDifferences.2.1 68 = .ok (.dup2, 1) := by decide +kernel
theorem dX6_measureDifferences_69 : decode fX6_measureDifferences.2.1 69 = .ok (.iaload, 1) := by decide +kernel
theorem dX6_measureDifferences_70 : decode fX6_measureDifferences.2.1 70 = .ok (.aload_n 0, 1) := by decide +kernel
theorem dX6_measureDifferences_71 : decode fX6_measureDifferences.2.1 71 = .ok (.getfield 16, 3) := by decide +kernel
theorem dX6_measureDifferences_74 : decode fX6_measureDifferences.2.1 74 = .ok (.aload_n 0, 1) := by decide +kernel
theorem dX6_measureDifferences_75 : decode fX6_measureDifferences.2.1 75 = .ok (.getfield 16, 3) := by decide +kernel
theorem dX6_measureDifferences_78 : decode fX6_measureDifferences.2.1 78 = .ok (.getfield 66, 3) := by decide +kernel
theorem dX6_measureDifferences_81 : decode fX6_measureDifferences.2.1 81 = .ok (.iload_n 3, 1) := by decide +kernel
theorem dX6_measureDifferences_82 : decode fX6_measureDifferences.2.1 82 = .ok (.aaload, 1) := by decide +kernel
theorem dX6_measureDifferences_83 : decode fX6_measureDifferences.2.1 83 = .ok (.invokevirtual 95, 3) := by decide +kernel
theorem dX6_measureDifferences_86 : decode fX6_measureDifferences.2.1 86 = .ok (.aload_n 1, 1) := by decide +kernel
theorem dX6_measureDifferences_87 : decode fX6_measureDifferences.2.1 87 = .ok (.getfield 252, 3) := by decide +kernel
theorem dX6_measureDifferences_90 : decode fX6_measureDifferences.2.1 90 = .ok (.iload_n 2, 1) := by decide +kernel
theorem dX6_measureDifferences_91 : decode fX6_measureDifferences.2.1 91 = .ok (.iaload, 1) := by decide +kernel
theorem dX6_measureDifferences_92 : decode fX6_measureDifferences.2.1 92 = .ok (.isub, 1) := by decide +kernel
theorem dX6_measureDifferences_93 : decode fX6_measureDifferences.2.1 93 = .ok (.invokestatic 310, 3) := by decide +kernel
theorem dX6_measureDifferences_96 : decode fX6_measureDifferences.2.1 96 = .ok (.iadd, 1) := by decide +kernel
theorem dX6_measureDifferences_97 : decode fX6_measureDifferences.2.1 97 = .ok (.iastore, 1) := by decide +kernel
theorem dX6_measureDifferences_98 : decode fX6_measureDifferences.2.1 98 = .ok (.iinc 3 1, 3) := by decide +kernel
theorem dX6_measureDifferences_101 : decode fX6_measureDifferences.2.1 101 = .ok (.goto (-49), 3) := by decide +kernel
theorem dX6_measureDifferences_104 : decode fX6_measureDifferences.2.1 104 = .ok (.aload_n 0, 1) := by decide +kernel
theorem dX6_measureDifferences_105 : decode fX6_measureDifferences.2.1 105 = .ok (.getfield 16, 3) := by decide +kernel
theorem dX6_measureDifferences_108 : decode fX6_measureDifferences.2.1 108 = .ok (.invokevirtual 151, 3) := by decide +kernel
theorem dX6_measureDifferences_111 : decode fX6_measureDifferences.2.1 111 = .ok (.iinc 2 1, 3) := by decide +kernel
theorem dX6_measureDifferences_114 : decode fX6_measureDifferences.2.1 114 = .ok (.goto (-80), 3) := by decide +kernel
theorem dX6_measureDifferences_117 : decode fX6_measureDifferences.2.1 117 = .ok (.return_, 1) := by decide +kernel
set_option maxRecDepth 100000 in
set_option maxHeartbeats 4000000 in
theorem ok_X6_measureDifferences {X : Xb} {S : Sg} {mi : Mem} {x n q z : Nat} {A : Nat → Int32} {lw : LawT} (hX : AsA S x) (hs : ShA S q) (hqx : x + 59 ≤ q) (hz : mi q 2 = nI z) (z24 : z ≤ 24) (hn8 : n ≤ 8) (hA : eqOn (26 + 5 * n) (tv mi (x + 1)) A) (hn : A 1 = nI n) (hx : TxOk S mi (x + 1) 0) (hl : lwC S mi (x + 1) 0 = lw) (hr : TxR S (x + 1)) : Ok 5 0 0 fX6_measureDifferences X [rf X x, rf X q] S mi (fun r S' m => r = none ∧ S' = cpS S (x + 18) (x + 1) 14 ∧ (∀ a, (a < x + 18 ∨ x + 35 ≤ a) → a ≠ x + 58 → m a = mi a) ∧ ∀ i, i < n → m (x + 58) i = lkD (lkR lw n A) (mi (q + 1)) i z) := by
  refine Ok.go [some (rf X x), some (rf X q), none, none] (by decide) (by simp [Value.category]) (Nat.le_of_ble_eq_true rfl) rfl ?_
  obtain ⟨k_x, ⟨r_x_now, t_now⟩, ⟨r_x_thought, t_thought⟩, ⟨r_x_image, t_image⟩, ⟨r_x_tape, t_tape⟩, ⟨r_x_sheets, k_x_sheets⟩, ⟨r_x_slots, k_x_slots⟩, ⟨r_x_waiting, k_x_waiting⟩, ⟨r_x_diff, k_x_diff⟩, a_sheets, a_slots⟩ := id hX
  have ec : mi (x + 1) 3 = nI n := by rw [show (3 : Nat) = tvF 1 from rfl, tv_0 hA (by decide) (by omega), hn]
  have hT2 : TwA (cpS S (x + 18) (x + 1) 14) (x + 18) := TwA.cp t_thought t_thought.2.2.2.2.1.2
  have nx : x ≠ x + 18 + 4 := by omega
  have nq : q ≠ x + 18 + 4 := by omega
  have k_x2 : Kd (cpS S (x + 18) (x + 1) 14) x 6 0 := k_x
  have k_d2 : Kd (cpS S (x + 18) (x + 1) 14) (x + 58) 8 8 := k_x_diff
  have r_x2 : (cpS S (x + 18) (x + 1) 14).2.2 x 1 = some (x + 18) := by show cpR S.2.2 (x + 18) (x + 1) 14 x 1 = _; simp only [cpR, nx, false_and, if_false]; exact r_x_thought
  have r_x3 : (cpS S (x + 18) (x + 1) 14).2.2 x 9 = some (x + 58) := by show cpR S.2.2 (x + 18) (x + 1) 14 x 9 = _; simp only [cpR, nx, false_and, if_false]; exact r_x_diff
  have hs2 : ShA (cpS S (x + 18) (x + 1) 14) q := ⟨hs.1, by show cpR S.2.2 (x + 18) (x + 1) 14 q 0 = _; simp only [cpR, nq, false_and, if_false]; exact hs.2.1, hs.2.2⟩
  have far58 : ∀ p len, TxA (cpS S (x + 18) (x + 1) 14) p len → p + 1 ≠ x + 58 := fun p len g e => Kd_ne g.1 (show Kd (cpS S (x + 18) (x + 1) 14) (x + 57) 8 60 from k_x_waiting) (by decide) (by omega)
  obtain ⟨k_v, ⟨r_v_home, k_v_home⟩, ⟨r_v_price, k_v_price⟩, ⟨r_v_attics, k_v_attics⟩, ⟨r_v_texts, k_v_texts⟩, ⟨r_v_counting, k_v_counting⟩, ⟨r_v_names, k_v_names⟩, ⟨r_v_pile, k_v_pile⟩, ⟨r_v_views, k_v_views⟩, a_v⟩ := id hT2
  have s104 : ∀ u, u < z → (∀ m, LkJ (cpS S (x + 18) (x + 1) 14) mi x n A lw (u + 1) m → (∀ i, i < n → m (x + 58) i = lkD (lkR lw n A) (mi (q + 1)) i (u + 1)) → MW X fX6_measureDifferences (rmOf 5 0 0) 0 0 34 [some (rf X x), some (rf X q), some (.int (nI (u + 1))), none] [] (cpS S (x + 18) (x + 1) 14) m (mQ X 0 0 (fun r S' m => r = none ∧ S' = cpS S (x + 18) (x + 1) 14 ∧ (∀ a, (a < x + 18 ∨ x + 35 ≤ a) → a ≠ x + 58 → m a = mi a) ∧ ∀ i, i < n → m (x + 58) i = lkD (lkR lw n A) (mi (q + 1)) i z))) → ∀ m, LkJ (cpS S (x + 18) (x + 1) 14) mi x n A lw u m → (∀ i, i < n → m (x + 58) i = lkD (lkR lw n A) (mi (q + 1)) i (u + 1)) → MW X fX6_measureDifferences (rmOf 5 0 0) 0 0 104 [some (rf X x), some (rf X q), some (.int (nI u)), none] [] (cpS S (x + 18) (x + 1) 14) m (mQ X 0 0 (fun r S' m => r = none ∧ S' = cpS S (x + 18) (x + 1) 14 ∧ (∀ a, (a < x + 18 ∨ x + 35 ≤ a) → a ≠ x + 58 → m a = mi a) ∧ ∀ i, i < n → m (x + 58) i = lkD (lkR lw n A) (mi (q + 1)) i z)) := by
    intro u hu ih m hJ hD
    obtain ⟨h2, hF, x1, l1⟩ := hJ
    have hn2 : cHours lw n A u 1 = nI n := by rw [cHours_lo (by decide) (by decide) (by decide) (by decide) (by decide) (by decide), hn]
    refine mw_aload_n dX6_measureDifferences_104 rfl ?_
    refine mw_getr dX6_measureDifferences_105 fl_X6_16 rfl (by assumption) (by assumption) ?_
    refine mw_callV (g := fX5_passHour) dX6_measureDifferences_108 ml_X6_151 mfX5_passHour (ok_X5_passHour hT2 hn8 h2 hn2 x1 l1) (by assumption) rfl rfl (Nat.le_of_ble_eq_true rfl) ⟨by decide, by decide⟩ ⟨by decide, by decide⟩ (fun r S2 mi2 hp => ?_)
    obtain ⟨rfl, e1, e4, e5⟩ := hp
    rw [e1]
    refine mw_iincK (k := u) dX6_measureDifferences_111 rfl rfl (by decide) ?_
    refine mw_goto (tgt := 34) dX6_measureDifferences_114 (by decide) ?_
    exact MW.sub (by simp [lsub]) (ih _ ⟨e4, fun a g1 g2 => (e5 a (by omega) (by omega) (by omega) (by omega)).trans (hF a g1 g2), x1.fr hT2 e5, (lwC_fr hT2 x1 e5).trans l1⟩ (fun i hi => by rw [e5 (x + 58) (by omega) (by omega) (by omega) (by omega)]; exact hD i hi))
  have s52 : ∀ u, u < z → mi (q + 1) u ≠ NONEi → (∀ m, LkJ (cpS S (x + 18) (x + 1) 14) mi x n A lw u m → (∀ i, i < n → m (x + 58) i = lkD (lkR lw n A) (mi (q + 1)) i (u + 1)) → MW X fX6_measureDifferences (rmOf 5 0 0) 0 0 104 [some (rf X x), some (rf X q), some (.int (nI u)), none] [] (cpS S (x + 18) (x + 1) 14) m (mQ X 0 0 (fun r S' m => r = none ∧ S' = cpS S (x + 18) (x + 1) 14 ∧ (∀ a, (a < x + 18 ∨ x + 35 ≤ a) → a ≠ x + 58 → m a = mi a) ∧ ∀ i, i < n → m (x + 58) i = lkD (lkR lw n A) (mi (q + 1)) i z))) → ∀ m, LkJ (cpS S (x + 18) (x + 1) 14) mi x n A lw u m → (∀ i, i < n → m (x + 58) i = lkD (lkR lw n A) (mi (q + 1)) i u) → MW X fX6_measureDifferences (rmOf 5 0 0) 0 0 52 [some (rf X x), some (rf X q), some (.int (nI u)), some (.int (nI 0))] [] (cpS S (x + 18) (x + 1) 14) m (mQ X 0 0 (fun r S' m => r = none ∧ S' = cpS S (x + 18) (x + 1) 14 ∧ (∀ a, (a < x + 18 ∨ x + 35 ≤ a) → a ≠ x + 58 → m a = mi a) ∧ ∀ i, i < n → m (x + 58) i = lkD (lkR lw n A) (mi (q + 1)) i z)) := by
    intro u hu hcu k104 m0 hJ0 hD0
    have lp := mw_dn (P := fun k => ∀ m, LkJ (cpS S (x + 18) (x + 1) 14) mi x n A lw u m → (∀ i, i < k → m (x + 58) i = lkD (lkR lw n A) (mi (q + 1)) i (u + 1)) → (∀ i, k ≤ i → i < n → m (x + 58) i = lkD (lkR lw n A) (mi (q + 1)) i u) → MW X fX6_measureDifferences (rmOf 5 0 0) 0 0 52 [some (rf X x), some (rf X q), some (.int (nI u)), some (.int (nI k))] [] (cpS S (x + 18) (x + 1) 14) m (mQ X 0 0 (fun r S' m => r = none ∧ S' = cpS S (x + 18) (x + 1) 14 ∧ (∀ a, (a < x + 18 ∨ x + 35 ≤ a) → a ≠ x + 58 → m a = mi a) ∧ ∀ i, i < n → m (x + 58) i = lkD (lkR lw n A) (mi (q + 1)) i z))) n (by
      intro m hJ g1 g2
      obtain ⟨h2, hF, x1, l1⟩ := id hJ
      have hn2 : cHours lw n A u 1 = nI n := by rw [cHours_lo (by decide) (by decide) (by decide) (by decide) (by decide) (by decide), hn]
      have b1 : m (x + 18) 3 = nI n := by rw [show (3 : Nat) = tvF 1 from rfl, tv_0 h2 (by decide) (by omega), hn2]
      refine mw_iload_n dX6_measureDifferences_52 rfl ?_
      refine mw_aload_n dX6_measureDifferences_53 rfl ?_
      refine mw_getr dX6_measureDifferences_54 fl_X6_16 rfl (by assumption) (by assumption) ?_
      refine mw_geti dX6_measureDifferences_57 fl_X6_130 rfl (by assumption) ?_
      rw [b1]
      refine mw_icmp_ge (tgt := 104) dX6_measureDifferences_60 (by decide) (fun h60 => ?_) (fun h60 => ?_)
      · skip
        exact MW.sub (by simp [lsub]) (k104 m hJ g1)
      · skip
        exact absurd (Int32.le_refl _) h60) (fun k hk ih => by
      intro m hJ g1 g2
      obtain ⟨h2, hF, x1, l1⟩ := id hJ
      have hn2 : cHours lw n A u 1 = nI n := by rw [cHours_lo (by decide) (by decide) (by decide) (by decide) (by decide) (by decide), hn]
      have b1 : m (x + 18) 3 = nI n := by rw [show (3 : Nat) = tvF 1 from rfl, tv_0 h2 (by decide) (by omega), hn2]
      have hka := (a_v k (by omega)).2
      have dk := g2 k (Nat.le_refl k) hk
      refine mw_iload_n dX6_measureDifferences_52 rfl ?_
      refine mw_aload_n dX6_measureDifferences_53 rfl ?_
      refine mw_getr dX6_measureDifferences_54 fl_X6_16 rfl (by assumption) (by assumption) ?_
      refine mw_geti dX6_measureDifferences_57 fl_X6_130 rfl (by assumption) ?_
      rw [b1]
      refine mw_icmp_ge (tgt := 104) dX6_measureDifferences_60 (by decide) (fun h60 => ?_) (fun h60 => ?_)
      · skip
        exact absurd h60 (nI_ge hk (by omega))
      · skip
        refine mw_aload_n dX6_measureDifferences_63 rfl ?_
        refine mw_getr dX6_measureDifferences_64 fl_X6_45 rfl (by assumption) (by assumption) ?_
        refine mw_iload_n dX6_measureDifferences_67 rfl ?_
        refine mw_dup2 dX6_measureDifferences_68 rfl rfl ?_
        refine mw_ialdK (k := k) dX6_measureDifferences_69 (by assumption) (rfl) (by omega) (by decide) ?_
        rw [dk]
        refine mw_aload_n dX6_measureDifferences_70 rfl ?_
        refine mw_getr dX6_measureDifferences_71 fl_X6_16 rfl (by assumption) (by assumption) ?_
        refine mw_aload_n dX6_measureDifferences_74 rfl ?_
        refine mw_getr dX6_measureDifferences_75 fl_X6_16 rfl (by assumption) (by assumption) ?_
        refine mw_getr dX6_measureDifferences_78 fl_X6_66 rfl (by assumption) (by assumption) ?_
        refine mw_iload_n dX6_measureDifferences_81 rfl ?_
        refine mw_aldK (k := k) dX6_measureDifferences_82 (by assumption) (by decide) (rfl) (by omega) (by decide) ((a_v k (by omega)).1) ?_
        refine mw_callV (g := fX5_rentOf) dX6_measureDifferences_83 ml_X6_95 mfX5_rentOf (ok_rentOf hT2 hka x1) (by assumption) rfl rfl (Nat.le_of_ble_eq_true rfl) ⟨by decide, by decide⟩ ⟨by decide, by decide⟩ (fun r S2 mi2 hp => ?_)
        obtain ⟨rfl, e1, hs3⟩ := hp
        rw [e1, cRent_of h2 (by omega), l1]
        have eqc : mi2 (q + 1) = mi (q + 1) := by rw [hs3 (q + 1) (by omega) (by omega)]; exact hF (q + 1) (by omega) (by omega)
        refine mw_aload_n dX6_measureDifferences_86 rfl ?_
        refine mw_getr dX6_measureDifferences_87 fl_X6_252 rfl (hs2.1) (hs2.2.1) ?_
        refine mw_iload_n dX6_measureDifferences_90 rfl ?_
        refine mw_ialdK (k := u) dX6_measureDifferences_91 (hs2.2.2) (rfl) (by omega) (by decide) ?_
        rw [eqc]
        refine mw_isub dX6_measureDifferences_92 ?_
        refine mw_mabs dX6_measureDifferences_93 ml_X6_310 (Nat.le_of_ble_eq_true rfl) ⟨by decide, by decide⟩ ⟨by decide, by decide⟩ ?_
        rw [absI_eq]
        refine mw_iadd dX6_measureDifferences_96 ?_
        refine mw_iastK (k := k) dX6_measureDifferences_97 (by assumption) (rfl) (by omega) (by decide) ?_
        refine mw_iincK (k := k) dX6_measureDifferences_98 rfl rfl (by decide) ?_
        refine mw_goto (tgt := 52) dX6_measureDifferences_101 (by decide) ?_
        have x2 := x1.fr hT2 (Frt.scr hs3)
        have l2 := (lwC_fr hT2 x1 (Frt.scr hs3)).trans l1
        have tu := tx_up (k := k) (v := lkD (lkR lw n A) (mi (q + 1)) k u + absI (rRent lw (cHours lw n A u) k - mi (q + 1) u)) (show x + 18 + 5 ≠ x + 58 by omega) far58 x2
        refine MW.sub (by simp [lsub]) (ih _ ⟨fun j hj => ?_, fun a r1 r2 => ?_, tu.1, tu.2.trans l2⟩ (fun i hi => ?_) (fun i h3 h4 => ?_))
        · rw [← tv_scr hs3 h2 j hj]; unfold tv; rw [m_up_ne (show x + 18 ≠ x + 58 by omega), m_up_ne (show x + 18 + 1 ≠ x + 58 by omega), m_up_ne (show x + 18 + 2 ≠ x + 58 by omega), m_up_ne (show x + 18 + 9 + (j - 26) / 5 ≠ x + 58 by omega)]
        · rw [m_up_ne r2, hs3 a (by omega) (by omega)]; exact hF a r1 r2
        · by_cases c : i = k
          · subst c; rw [m_up_at]; simp only [lkD, if_neg hcu]; rfl
          · rw [m_up_of c, hs3 (x + 58) (by omega) (by omega)]; exact g1 i (by omega)
        · rw [m_up_of (by omega), hs3 (x + 58) (by omega) (by omega)]; exact g2 i (by omega) h4)
    exact lp m0 hJ0 (fun i hi => absurd hi (Nat.not_lt_zero i)) (fun i _ hi => hD0 i hi)
  have s34 : ∀ m, LkJ (cpS S (x + 18) (x + 1) 14) mi x n A lw 0 m → (∀ i, i < n → m (x + 58) i = 0) → MW X fX6_measureDifferences (rmOf 5 0 0) 0 0 34 [some (rf X x), some (rf X q), some (.int (nI 0)), none] [] (cpS S (x + 18) (x + 1) 14) m (mQ X 0 0 (fun r S' m => r = none ∧ S' = cpS S (x + 18) (x + 1) 14 ∧ (∀ a, (a < x + 18 ∨ x + 35 ≤ a) → a ≠ x + 58 → m a = mi a) ∧ ∀ i, i < n → m (x + 58) i = lkD (lkR lw n A) (mi (q + 1)) i z)) := by
    have lp := mw_dn (P := fun k => ∀ m, LkJ (cpS S (x + 18) (x + 1) 14) mi x n A lw k m → (∀ i, i < n → m (x + 58) i = lkD (lkR lw n A) (mi (q + 1)) i k) → MW X fX6_measureDifferences (rmOf 5 0 0) 0 0 34 [some (rf X x), some (rf X q), some (.int (nI k)), none] [] (cpS S (x + 18) (x + 1) 14) m (mQ X 0 0 (fun r S' m => r = none ∧ S' = cpS S (x + 18) (x + 1) 14 ∧ (∀ a, (a < x + 18 ∨ x + 35 ≤ a) → a ≠ x + 58 → m a = mi a) ∧ ∀ i, i < n → m (x + 58) i = lkD (lkR lw n A) (mi (q + 1)) i z))) z (by
      intro m hJ hD
      obtain ⟨h2, hF, x1, l1⟩ := id hJ
      have eq2 : m q 2 = nI z := by rw [hF q (by omega) (by omega)]; exact hz
      refine mw_iload_n dX6_measureDifferences_34 rfl ?_
      refine mw_aload_n dX6_measureDifferences_35 rfl ?_
      refine mw_geti dX6_measureDifferences_36 fl_X6_261 rfl (hs2.1) ?_
      rw [eq2]
      refine mw_icmp_ge (tgt := 117) dX6_measureDifferences_39 (by decide) (fun h39 => ?_) (fun h39 => ?_)
      · skip
        exact mw_vret dX6_measureDifferences_117 rfl (by decide) (by decide) (⟨rfl, rfl, hF, hD⟩)
      · skip
        exact absurd (Int32.le_refl _) h39) (fun k hk ih => by
      intro m hJ hD
      obtain ⟨h2, hF, x1, l1⟩ := id hJ
      have eq2 : m q 2 = nI z := by rw [hF q (by omega) (by omega)]; exact hz
      have eqc : m (q + 1) = mi (q + 1) := hF (q + 1) (by omega) (by omega)
      refine mw_iload_n dX6_measureDifferences_34 rfl ?_
      refine mw_aload_n dX6_measureDifferences_35 rfl ?_
      refine mw_geti dX6_measureDifferences_36 fl_X6_261 rfl (hs2.1) ?_
      rw [eq2]
      refine mw_icmp_ge (tgt := 117) dX6_measureDifferences_39 (by decide) (fun h39 => ?_) (fun h39 => ?_)
      · skip
        exact absurd h39 (nI_ge hk (by omega))
      · skip
        refine mw_aload_n dX6_measureDifferences_42 rfl ?_
        refine mw_iload_n dX6_measureDifferences_43 rfl ?_
        refine mw_cVI (g := fX1_hasNumber) dX6_measureDifferences_44 ml_X6_255 mfX1_hasNumber (ok_X1_hasNumber hs2 eq2 z24) (hs2.1) rfl rfl (Nat.le_of_ble_eq_true rfl) ⟨by decide, by decide⟩ ⟨by decide, by decide⟩ ?_
        rw [eqc]
        refine mw_if_eqB (tgt := 104) dX6_measureDifferences_47 (by decide) (fun h47 => ?_) (fun h47 => ?_)
        · skip
          have hc : mi (q + 1) k = NONEi := Classical.not_not.mp (fun g => h47 ((hnIff (by omega) (by omega)).mpr ⟨hk, g⟩))
          exact MW.sub (by simp [lsub]) (s104 k hk ih m hJ (fun i hi => by rw [hD i hi]; simp only [lkD, if_pos hc]))
        · skip
          refine mw_iconst (v := 0) dX6_measureDifferences_50 (by decide) ?_
          refine mw_istN 3 dX6_measureDifferences_51 rfl (by decide) ?_
          have hc := (hnIff (by omega) (by omega)).mp h47
          exact MW.sub (by simp [lsub, nI_0]) (s52 k hk hc.2 (s104 k hk ih) m hJ hD))
    exact lp
  have lp := mw_dn (P := fun k => ∀ m, (∀ a, a ≠ x + 58 → m a = mi a) → (∀ i, i < k → m (x + 58) i = 0) → MW X fX6_measureDifferences (rmOf 5 0 0) 0 0 2 [some (rf X x), some (rf X q), some (.int (nI k)), none] [] S m (mQ X 0 0 (fun r S' m => r = none ∧ S' = cpS S (x + 18) (x + 1) 14 ∧ (∀ a, (a < x + 18 ∨ x + 35 ≤ a) → a ≠ x + 58 → m a = mi a) ∧ ∀ i, i < n → m (x + 58) i = lkD (lkR lw n A) (mi (q + 1)) i z))) 8 (by
    intro m hm hd0
    have ecm : m (x + 1) 3 = nI n := by rw [hm (x + 1) (by omega)]; exact ec
    have t0 := tx_congr (j := 0) (hm (x + 1 + 5) (by omega)) (fun p len g => hm (p + 1) (fun e => Kd_ne g.1 k_x_waiting (by decide) (by omega))) hx
    have hAm : eqOn (26 + 5 * n) (tv m (x + 1)) A := fun j hj => by
      rw [← hA j hj]
      unfold tv
      rw [hm (x + 1) (by omega), hm (x + 1 + 1) (by omega), hm (x + 1 + 2) (by omega), hm (x + 1 + 9 + (j - 26) / 5) (by omega)]
    refine mw_iload_n dX6_measureDifferences_2 rfl ?_
    refine mw_bipush (v := 8) dX6_measureDifferences_3 (by decide) ?_
    refine mw_icmp_ge (tgt := 21) dX6_measureDifferences_5 (by decide) (fun h5 => ?_) (fun h5 => ?_)
    · skip
      refine mw_aload_n dX6_measureDifferences_21 rfl ?_
      refine mw_getr dX6_measureDifferences_22 fl_X6_16 rfl (by assumption) (by assumption) ?_
      refine mw_aload_n dX6_measureDifferences_25 rfl ?_
      refine mw_getr dX6_measureDifferences_26 fl_X6_10 rfl (by assumption) (by assumption) ?_
      refine mw_callV (g := fX5_takeAfter) dX6_measureDifferences_29 ml_X6_178 mfX5_takeAfter (ok_X5_takeAfter (n := n) t_thought t_now (by omega) ecm hn8 hr) (t_thought.1) rfl rfl (Nat.le_of_ble_eq_true rfl) ⟨by decide, by decide⟩ ⟨by decide, by decide⟩ (fun r S2 mi2 hp => ?_)
      obtain ⟨rfl, e1, e2, e3, e4⟩ := hp
      rw [e1]
      obtain ⟨x0, l0⟩ := take_tx (j := 0) t_thought (by decide) t0.1 e2 e4
      refine mw_iconst (v := 0) dX6_measureDifferences_32 (by decide) ?_
      refine mw_istN 2 dX6_measureDifferences_33 rfl (by decide) ?_
      exact MW.sub (by simp [lsub, nI_0]) (s34 _ ⟨e3.tr hAm, fun a g1 g2 => (e2 a (by omega)).trans (hm a g2), x0, l0.trans (t0.2.trans hl)⟩ (fun i hi => by rw [e2 (x + 58) (by omega)]; exact hd0 i (by omega)))
    · skip
      exact absurd (by decide) h5) (fun k hk ih => by
    intro m hm hd0
    refine mw_iload_n dX6_measureDifferences_2 rfl ?_
    refine mw_bipush (v := 8) dX6_measureDifferences_3 (by decide) ?_
    refine mw_icmp_ge (tgt := 21) dX6_measureDifferences_5 (by decide) (fun h5 => ?_) (fun h5 => ?_)
    · skip
      exact absurd h5 (nI_ge (b := 8) hk (by decide))
    · skip
      refine mw_aload_n dX6_measureDifferences_8 rfl ?_
      refine mw_getr dX6_measureDifferences_9 fl_X6_45 rfl (by assumption) (by assumption) ?_
      refine mw_iload_n dX6_measureDifferences_12 rfl ?_
      refine mw_iconst (v := 0) dX6_measureDifferences_13 (by decide) ?_
      refine mw_iastK (k := k) dX6_measureDifferences_14 (by assumption) (rfl) (by omega) (by decide) ?_
      refine mw_iincK (k := k) dX6_measureDifferences_15 rfl rfl (by decide) ?_
      refine mw_goto (tgt := 2) dX6_measureDifferences_18 (by decide) ?_
      refine MW.sub (by simp [lsub]) (ih _ (fun a ha => by rw [m_up_ne ha]; exact hm a ha) (fun i hi => ?_))
      by_cases c : i = k
      · subst c; rw [m_up_at]
      · rw [m_up_of c]; exact hd0 i (by omega))
  refine mw_iconst (v := 0) dX6_measureDifferences_0 (by decide) ?_
  refine mw_istN 2 dX6_measureDifferences_1 rfl (by decide) ?_
  exact MW.sub (by simp [lsub, nI_0]) (lp mi (fun _ _ => rfl) (fun i hi => absurd hi (Nat.not_lt_zero i)))
def amD (D : Nat → Int32) : Nat → Nat
  | 0 => 0
  | k + 1 => if D k < D (amD D k) then k else amD D k
theorem amD_lt (D : Nat → Int32) : ∀ n, amD D (n + 1) < n + 1
  | 0 => by simp [amD]
  | n + 1 => by
    have := amD_lt D n
    rw [amD]
    split <;> omega
def lkV (D : Nat → Int32) (n : Nat) (w : Int32) : Int32 := if n = 0 then NONEi else if w = 0 then nI (amD D n) else D (amD D n)
def cLike (mi : Mem) (x n : Nat) (A : Nat → Int32) (lw : LawT) (v w : Int32) : Int32 := if (0 ≤ v ∧ v ≤ 3) ∧ (0 ≤ w ∧ w ≤ 1) then (if mi (x + 59 + 2 * v.toNatClampNeg) 1 = -1 then NOTHINGi else lkV (fun i => lkD (lkR lw n A) (mi (x + 59 + 2 * v.toNatClampNeg + 1)) i (mi (x + 59 + 2 * v.toNatClampNeg) 2).toNatClampNeg) n w) else BADi
def PL (S : Sg) (mi : Mem) (x : Nat) (v : Int32) : Pt3 := fun r S' m => r = some (.int v) ∧ (S' = S ∨ S' = cpS S (x + 18) (x + 1) 14) ∧ ∀ a, (a < x + 18 ∨ x + 35 ≤ a) → a ≠ x + 58 → m a = mi a
theorem dX6_like_0 : decode fX6_like.2.1 0 = .ok (.iload_n 1, 1) := by decide +kernel
theorem dX6_like_1 : decode fX6_like.2.1 1 = .ok (.invokestatic 187, 3) := by decide +kernel
theorem dX6_like_4 : decode fX6_like.2.1 4 = .ok (.ifCond .eq 12, 3) := by decide +kernel
theorem dX6_like_7 : decode fX6_like.2.1 7 = .ok (.iload_n 2, 1) := by decide +kernel
theorem dX6_like_8 : decode fX6_like.2.1 8 = .ok (.iconst 0, 1) := by decide +kernel
theorem dX6_like_9 : decode fX6_like.2.1 9 = .ok (.iconst 1, 1) := by decide +kernel
theorem dX6_like_10 : decode fX6_like.2.1 10 = .ok (.invokestatic 50, 3) := by decide +kernel
theorem dX6_like_13 : decode fX6_like.2.1 13 = .ok (.ifCond .ne 6, 3) := by decide +kernel
theorem dX6_like_16 : decode fX6_like.2.1 16 = .ok (.ldc 58, 2) := by decide +kernel
theorem dX6_like_18 : decode fX6_like.2.1 18 = .ok (.ireturn, 1) := by decide +kernel
theorem dX6_like_19 : decode fX6_like.2.1 19 = .ok (.aload_n 0, 1) := by decide +kernel
theorem dX6_like_20 : decode fX6_like.2.1 20 = .ok (.getfield 31, 3) := by decide +kernel
theorem dX6_like_23 : decode fX6_like.2.1 23 = .ok (.iload_n 1, 1) := by decide +kernel
theorem dX6_like_24 : decode fX6_like.2.1 24 = .ok (.aaload, 1) := by decide +kernel
theorem dX6_like_25 : decode fX6_like.2.1 25 = .ok (.astore_n 3, 1) := by decide +kernel
theorem dX6_like_26 : decode fX6_like.2.1 26 = .ok (.aload_n 3, 1) := by decide +kernel
theorem dX6_like_27 : decode fX6_like.2.1 27 = .ok (.getfield 190, 3) := by decide +kernel
theorem dX6_like_30 : decode fX6_like.2.1 30 = .ok (.iconst (-1), 1) := by decide +kernel
theorem dX6_like_31 : decode fX6_like.2.1 31 = .ok (.if_icmp .ne 6, 3) := by decide +kernel
theorem dX6_like_34 : decode fX6_like.2.1 34 = .ok (.ldc 193, 2) := by decide +kernel
theorem dX6_like_36 : decode fX6_like.2.1 36 = .ok (.ireturn, 1) := by decide +kernel
theorem dX6_like_37 : decode fX6_like.2.1 37 = .ok (.aload_n 0, 1) := by decide +kernel
theorem dX6_like_38 : decode fX6_like.2.1 38 = .ok (.getfield 10, 3) := by decide +kernel
theorem dX6_like_41 : decode fX6_like.2.1 41 = .ok (.getfield 130, 3) := by decide +kernel
theorem dX6_like_44 : decode fX6_like.2.1 44 = .ok (.ifCond .ne 6, 3) := by decide +kernel
theorem dX6_like_47 : decode fX6_like.2.1 47 = .ok (.ldc 182, 2) := by decide +kernel
theorem dX6_like_49 : decode fX6_like.2.1 49 = .ok (.ireturn, 1) := by decide +kernel
theorem dX6_like_50 : decode fX6_like.2.1 50 = .ok (.aload_n 0, 1) := by decide +kernel
theorem dX6_like_51 : decode fX6_like.2.1 51 = .ok (.aload_n 3, 1) := by decide +kernel
theorem dX6_like_52 : decode fX6_like.2.1 52 = .ok (.invokevirtual 194, 3) := by decide +kernel
theorem dX6_like_55 : decode fX6_like.2.1 55 = .ok (.iconst 0, 1) := by decide +kernel
theorem dX6_like_56 : decode fX6_like.2.1 56 = .ok (.istore 4, 2) := by decide +kernel
theorem dX6_like_58 : decode fX6_like.2.1 58 = .ok (.iconst 1, 1) := by decide +kernel
theorem dX6_like_59 : decode fX6_like.2.1 59 = .ok (.istore 5, 2) := by decide +kernel
theorem dX6_like_61 : decode fX6_like.2.1 61 = .ok (.iload 5, 2) := by decide +kernel
theorem dX6_like_63 : decode fX6_like.2.1 63 = .ok (.aload_n 0, 1) := by decide +kernel
theorem dX6_like_64 : decode fX6_like.2.1 64 = .ok (.getfield 10, 3) := by decide +kernel
theorem dX6_like_67 : decode fX6_like.2.1 67 = .ok (.getfield 130, 3) := by decide +kernel
theorem dX6_like_70 : decode fX6_like.2.1 70 = .ok (.if_icmp .ge 30, 3) := by decide +kernel
theorem dX6_like_73 : decode fX6_like.2.1 73 = .ok (.aload_n 0, 1) := by decide +kernel
theorem dX6_like_74 : decode fX6_like.2.1 74 = .ok (.getfield 45, 3) := by decide +kernel
theorem dX6_like_77 : decode fX6_like.2.1 77 = .ok (.iload 5, 2) := by decide +kernel
theorem dX6_like_79 : decode fX6_like.2.1 79 = .ok (.iaload, 1) := by decide +kernel
theorem dX6_like_80 : decode fX6_like.2.1 80 = .ok (.aload_n 0, 1) := by decide +kernel
theorem dX6_like_81 : decode fX6_like.2.1 81 = .ok (.getfield 45, 3) := by decide +kernel
theorem dX6_like_84 : decode fX6_like.2.1 84 = .ok (.iload 4, 2) := by decide +kernel
theorem dX6_like_86 : decode fX6_like.2.1 86 = .ok (.iaload, 1) := by decide +kernel
theorem dX6_like_87 : decode fX6_like.2.1 87 = .ok (.if_icmp .ge 7, 3) := by decide +kernel
theorem dX6_like_90 : decode fX6_like.2.1 90 = .ok (.iload 5, 2) := by decide +kernel
theorem dX6_like_92 : decode fX6_like.2.1 92 = .ok (.istore 4, 2) := by decide +kernel
theorem dX6_like_94 : decode fX6_like.2.1 94 = .ok (.iinc 5 1, 3) := by decide +kernel
theorem dX6_like_97 : decode fX6_like.2.1 97 = .ok (.goto (-36), 3) := by decide +kernel
theorem dX6_like_100 : decode fX6_like.2.1 100 = .ok (.iload_n 2, 1) := by decide +kernel
theorem dX6_like_101 : decode fX6_like.2.1 101 = .ok (.ifCond .ne 8, 3) := by decide +kernel
theorem dX6_like_104 : decode fX6_like.2.1 104 = .ok (.iload 4, 2) := by decide +kernel
theorem dX6_like_106 : decode fX6_like.2.1 106 = .ok (.goto 10, 3) := by decide +kernel
theorem dX6_like_109 : decode fX6_like.2.1 109 = .ok (.aload_n 0, 1) := by decide +kernel
theorem dX6_like_110 : decode fX6_like.2.1 110 = .ok (.getfield 45, 3) := by decide +kernel
theorem dX6_like_113 : decode fX6_like.2.1 113 = .ok (.iload 4, 2) := by decide +kernel
theorem dX6_like_115 : decode fX6_like.2.1 115 = .ok (.iaload, 1) := by decide +kernel
theorem dX6_like_116 : decode fX6_like.2.1 116 = .ok (.ireturn, 1) := by decide +kernel
set_option maxRecDepth 100000 in
set_option maxHeartbeats 4000000 in
theorem ok_X6_like {X : Xb} {S : Sg} {mi : Mem} {x n : Nat} {A : Nat → Int32} {lw : LawT} {v w : Int32} (hX : AsA S x) (hZ : ShZ mi x) (hn8 : n ≤ 8) (hA : eqOn (26 + 5 * n) (tv mi (x + 1)) A) (hn : A 1 = nI n) (hx : TxOk S mi (x + 1) 0) (hl : lwC S mi (x + 1) 0 = lw) (hr : TxR S (x + 1)) : Ok 6 0 0 fX6_like X [rf X x, .int v, .int w] S mi (PL S mi x (cLike mi x n A lw v w)) := by
  refine Ok.go [some (rf X x), some (.int v), some (.int w), none, none, none] (by decide) (by simp [Value.category]) (Nat.le_of_ble_eq_true rfl) rfl ?_
  obtain ⟨k_x, ⟨r_x_now, t_now⟩, ⟨r_x_thought, t_thought⟩, ⟨r_x_image, t_image⟩, ⟨r_x_tape, t_tape⟩, ⟨r_x_sheets, k_x_sheets⟩, ⟨r_x_slots, k_x_slots⟩, ⟨r_x_waiting, k_x_waiting⟩, ⟨r_x_diff, k_x_diff⟩, a_sheets, a_slots⟩ := id hX
  have ec : mi (x + 1) 3 = nI n := by rw [show (3 : Nat) = tvF 1 from rfl, tv_0 hA (by decide) (by omega), hn]
  have zf : ∀ a, (a < x + 18 ∨ x + 35 ≤ a) → a ≠ x + 58 → mi a = mi a := fun _ _ _ => rfl
  have nx : x ≠ x + 18 + 4 := by omega
  have k_x2 : Kd (cpS S (x + 18) (x + 1) 14) x 6 0 := k_x
  have k_d2 : Kd (cpS S (x + 18) (x + 1) 14) (x + 58) 8 8 := k_x_diff
  have k_n2 : Kd (cpS S (x + 18) (x + 1) 14) (x + 1) 5 0 := t_now.1
  have k_n1 : Kd S (x + 1) 5 0 := t_now.1
  have r_x2 : (cpS S (x + 18) (x + 1) 14).2.2 x 0 = some (x + 1) := by show cpR S.2.2 (x + 18) (x + 1) 14 x 0 = _; simp only [cpR, nx, false_and, if_false]; exact r_x_now
  have r_x3 : (cpS S (x + 18) (x + 1) 14).2.2 x 9 = some (x + 58) := by show cpR S.2.2 (x + 18) (x + 1) 14 x 9 = _; simp only [cpR, nx, false_and, if_false]; exact r_x_diff
  have go : ∀ D : Nat → Int32, ∀ b, n = b + 1 → ∀ q, ∀ m, (∀ a, (a < x + 18 ∨ x + 35 ≤ a) → a ≠ x + 58 → m a = mi a) → (∀ i, i < n → m (x + 58) i = D i) → lkV D n w = cLike mi x n A lw v w → MW X fX6_like (rmOf 6 0 0) 0 0 61 [some (rf X x), some (.int v), some (.int w), some (rf X q), some (.int 0), some (.int 1)] [] (cpS S (x + 18) (x + 1) 14) m (mQ X 0 0 (PL S mi x (cLike mi x n A lw v w))) := by
    intro D b hb q m hF hD hV
    have ecm : m (x + 1) 3 = nI n := by rw [hF (x + 1) (by omega) (by omega)]; exact ec
    have hn0 : n ≠ 0 := by omega
    have lp := mw_dn (P := fun k => MW X fX6_like (rmOf 6 0 0) 0 0 61 [some (rf X x), some (.int v), some (.int w), some (rf X q), some (.int (nI (amD D (k + 1)))), some (.int (nI (k + 1)))] [] (cpS S (x + 18) (x + 1) 14) m (mQ X 0 0 (PL S mi x (cLike mi x n A lw v w)))) b (by
      refine mw_iload dX6_like_61 rfl ?_
      refine mw_aload_n dX6_like_63 rfl ?_
      refine mw_getr dX6_like_64 fl_X6_10 rfl (by assumption) (by assumption) ?_
      refine mw_geti dX6_like_67 fl_X6_130 rfl (by assumption) ?_
      rw [ecm, hb]
      refine mw_icmp_ge (tgt := 100) dX6_like_70 (by decide) (fun h70 => ?_) (fun h70 => ?_)
      · skip
        refine mw_iload_n dX6_like_100 rfl ?_
        refine mw_if_ne (tgt := 109) dX6_like_101 (by decide) (fun h101 => ?_) (fun h101 => ?_)
        · skip
          refine mw_aload_n dX6_like_109 rfl ?_
          refine mw_getr dX6_like_110 fl_X6_45 rfl (by assumption) (by assumption) ?_
          refine mw_iload dX6_like_113 rfl ?_
          refine mw_ialdK (k := amD D (b + 1)) dX6_like_115 (by assumption) (rfl) (by have := amD_lt D b; omega) (by decide) ?_
          first
            | rw [hD (amD D (b + 1)) (by have := amD_lt D b; omega)]
            | skip
            | fail "b116"
          exact mw_iret dX6_like_116 rfl (by decide) (by decide) (by rw [lkV, if_neg hn0, hb] at hV; first | exact ⟨by rw [if_pos h101] at hV; rw [← hV], Or.inr rfl, hF⟩ | exact ⟨by rw [if_neg h101] at hV; rw [← hV], Or.inr rfl, hF⟩ | fail "leaf")
        · skip
          refine mw_iload dX6_like_104 rfl ?_
          refine mw_goto (tgt := 116) dX6_like_106 (by decide) ?_
          first
            | rw [hD (amD D (b + 1)) (by have := amD_lt D b; omega)]
            | skip
            | fail "b116"
          exact mw_iret dX6_like_116 rfl (by decide) (by decide) (by rw [lkV, if_neg hn0, hb] at hV; first | exact ⟨by rw [if_pos h101] at hV; rw [← hV], Or.inr rfl, hF⟩ | exact ⟨by rw [if_neg h101] at hV; rw [← hV], Or.inr rfl, hF⟩ | fail "leaf")
      · skip
        exact absurd (Int32.le_refl _) h70) (fun k hk ih => by
      have ak := amD_lt D k
      refine mw_iload dX6_like_61 rfl ?_
      refine mw_aload_n dX6_like_63 rfl ?_
      refine mw_getr dX6_like_64 fl_X6_10 rfl (by assumption) (by assumption) ?_
      refine mw_geti dX6_like_67 fl_X6_130 rfl (by assumption) ?_
      rw [ecm]
      refine mw_icmp_ge (tgt := 100) dX6_like_70 (by decide) (fun h70 => ?_) (fun h70 => ?_)
      · skip
        exact absurd h70 (nI_ge (by omega) (by omega))
      · skip
        refine mw_aload_n dX6_like_73 rfl ?_
        refine mw_getr dX6_like_74 fl_X6_45 rfl (by assumption) (by assumption) ?_
        refine mw_iload dX6_like_77 rfl ?_
        refine mw_ialdK (k := k + 1) dX6_like_79 (by assumption) (rfl) (by omega) (by decide) ?_
        rw [hD (k + 1) (by omega)]
        refine mw_aload_n dX6_like_80 rfl ?_
        refine mw_getr dX6_like_81 fl_X6_45 rfl (by assumption) (by assumption) ?_
        refine mw_iload dX6_like_84 rfl ?_
        refine mw_ialdK (k := amD D (k + 1)) dX6_like_86 (by assumption) (rfl) (by omega) (by decide) ?_
        rw [hD (amD D (k + 1)) (by omega)]
        refine mw_icmp_ge (tgt := 94) dX6_like_87 (by decide) (fun h87 => ?_) (fun h87 => ?_)
        · skip
          refine mw_iincK (k := k + 1) dX6_like_94 rfl rfl (by decide) ?_
          refine mw_goto (tgt := 61) dX6_like_97 (by decide) ?_
          refine MW.sub ?_ ih
          rw [show amD D (k + 1 + 1) = if D (k + 1) < D (amD D (k + 1)) then k + 1 else amD D (k + 1) from rfl]
          first
            | (rw [if_neg (Int32.not_lt.mpr h87)]; simp [lsub])
            | (rw [if_pos (Int32.not_le.mp h87)]; simp [lsub])
        · skip
          refine mw_iload dX6_like_90 rfl ?_
          refine mw_istore dX6_like_92 (by decide) ?_
          refine mw_iincK (k := k + 1) dX6_like_94 rfl rfl (by decide) ?_
          refine mw_goto (tgt := 61) dX6_like_97 (by decide) ?_
          refine MW.sub ?_ ih
          rw [show amD D (k + 1 + 1) = if D (k + 1) < D (amD D (k + 1)) then k + 1 else amD D (k + 1) from rfl]
          first
            | (rw [if_neg (Int32.not_lt.mpr h87)]; simp [lsub])
            | (rw [if_pos (Int32.not_le.mp h87)]; simp [lsub]))
    refine MW.sub ?_ lp
    rw [show amD D (0 + 1) = 0 from by simp [amD], show nI (0 + 1) = 1 from rfl, nI_0]
    simp [lsub]
  refine mw_iload_n dX6_like_0 rfl ?_
  refine mw_cSI (g := fX6_isSheet) dX6_like_1 ml_X6_187 mfX6_isSheet (ok_X6_isSheet) rfl rfl (Nat.le_of_ble_eq_true rfl) ⟨by decide, by decide⟩ ⟨by decide, by decide⟩ ?_
  refine mw_if_eqB (tgt := 16) dX6_like_4 (by decide) (fun h4 => ?_) (fun h4 => ?_)
  · skip
    refine mw_ldc dX6_like_16 cn_X6_58 ?_
    exact mw_iret dX6_like_18 rfl (by decide) (by decide) (by rw [cLike, if_neg (by grind)]; exact ⟨rfl, Or.inl rfl, zf⟩)
  · skip
    refine mw_iload_n dX6_like_7 rfl ?_
    refine mw_iconst (v := 0) dX6_like_8 (by decide) ?_
    refine mw_iconst (v := 1) dX6_like_9 (by decide) ?_
    refine mw_cSI (g := fX6_within) dX6_like_10 ml_X6_50 mfX6_within (ok_X6_within) rfl rfl (Nat.le_of_ble_eq_true rfl) ⟨by decide, by decide⟩ ⟨by decide, by decide⟩ ?_
    refine mw_if_neB (tgt := 19) dX6_like_13 (by decide) (fun h13 => ?_) (fun h13 => ?_)
    · skip
      obtain ⟨i, hi, hv⟩ := inB 3 (by decide) h4
      have ev : v.toNatClampNeg = i := by rw [hv, nI_clamp (by omega)]
      have hs := (a_sheets i (by omega)).2
      obtain ⟨y, y24, hy⟩ := hZ i (by omega)
      refine mw_aload_n dX6_like_19 rfl ?_
      refine mw_getr dX6_like_20 fl_X6_31 rfl (by assumption) (by assumption) ?_
      refine mw_iload_n dX6_like_23 rfl ?_
      refine mw_aldK (k := i) dX6_like_24 (by assumption) (by decide) (hv) (by omega) (by decide) ((a_sheets i (by omega)).1) ?_
      refine mw_astN 3 dX6_like_25 rfl (by decide) ?_
      refine mw_aload_n dX6_like_26 rfl ?_
      refine mw_geti dX6_like_27 fl_X6_190 rfl (hs.1) ?_
      refine mw_iconst (v := (-1)) dX6_like_30 (by decide) ?_
      refine mw_icmp_ne (tgt := 37) dX6_like_31 (by decide) (fun h31 => ?_) (fun h31 => ?_)
      · skip
        refine mw_aload_n dX6_like_37 rfl ?_
        refine mw_getr dX6_like_38 fl_X6_10 rfl (by assumption) (by assumption) ?_
        refine mw_geti dX6_like_41 fl_X6_130 rfl (by assumption) ?_
        rw [ec]
        refine mw_if_ne (tgt := 50) dX6_like_44 (by decide) (fun h44 => ?_) (fun h44 => ?_)
        · skip
          refine mw_aload_n dX6_like_50 rfl ?_
          refine mw_aload_n dX6_like_51 rfl ?_
          refine mw_callV (g := fX6_measureDifferences) dX6_like_52 ml_X6_194 mfX6_measureDifferences (ok_X6_measureDifferences (q := x + 59 + 2 * i) (z := y) hX hs (by omega) hy y24 hn8 hA hn hx hl hr) (k_x) rfl rfl (Nat.le_of_ble_eq_true rfl) ⟨by decide, by decide⟩ ⟨by decide, by decide⟩ (fun r S2 mi2 hp => ?_)
          obtain ⟨rfl, e1, e2, e3⟩ := hp
          rw [e1]
          refine mw_iconst (v := 0) dX6_like_55 (by decide) ?_
          refine mw_istore dX6_like_56 (by decide) ?_
          refine mw_iconst (v := 1) dX6_like_58 (by decide) ?_
          refine mw_istore dX6_like_59 (by decide) ?_
          have hn0 : n ≠ 0 := fun e => h44 (by rw [e]; rfl)
          exact MW.sub (by simp [lsub]) (go _ (n - 1) (by omega) (x + 59 + 2 * i) _ e2 e3 (by rw [cLike, if_pos ⟨h4, h13⟩, ev, if_neg h31, hy, nI_clamp (by omega)]))
        · skip
          refine mw_ldc dX6_like_47 cn_X6_182 ?_
          exact mw_iret dX6_like_49 rfl (by decide) (by decide) (by rw [cLike, if_pos ⟨h4, h13⟩, ev, if_neg h31, lkV, if_pos ((nI_eq (b := 0) (by omega) (by decide)).mp h44)]; exact ⟨rfl, Or.inl rfl, zf⟩)
      · skip
        refine mw_ldc dX6_like_34 cn_X6_193 ?_
        exact mw_iret dX6_like_36 rfl (by decide) (by decide) (by rw [cLike, if_pos ⟨h4, h13⟩, ev, if_pos h31]; exact ⟨rfl, Or.inl rfl, zf⟩)
    · skip
      refine mw_ldc dX6_like_16 cn_X6_58 ?_
      exact mw_iret dX6_like_18 rfl (by decide) (by decide) (by rw [cLike, if_neg (by grind)]; exact ⟨rfl, Or.inl rfl, zf⟩)
