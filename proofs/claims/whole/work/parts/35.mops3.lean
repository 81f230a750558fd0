/-! the model's calls: rule, chimney, sums, town, hours -/
theorem in2 {v : Int32} (h : 0 ≤ v ∧ v ≤ 2) : ∃ k, k < 3 ∧ v = nI k := by
  obtain ⟨j, hj, rfl⟩ := nI_of (Int32.not_lt.mpr h.1)
  exact ⟨j, by have := (nI_leI (b := 2) hj (by decide)).mp h.2; omega, rfl⟩
theorem ix6 (k : Nat) : (6 : Int32) + nI k = nI (6 + k) := by
  show nI 6 + nI k = _
  rw [nI_add]
theorem sRule_bad {A : Nat → Int32} {n : Nat} {w y : Int32} (h : ¬ (0 ≤ w ∧ w ≤ 2)) : sRule A n w y = (BADi, A, n) := by
  have w0 : ¬ w = 0 := fun e => h (by subst e; decide)
  have w1 : ¬ w = 1 := fun e => h (by subst e; decide)
  have w2 : ¬ w = 2 := fun e => h (by subst e; decide)
  rw [sRule, if_neg (by grind)]
theorem sRule_ok {A : Nat → Int32} {n q : Nat} {y : Int32} (hq : q < 3) : sRule A n (nI q) y = if 0 ≤ y ∧ y ≤ (if nI q = 2 then 999 else 100) then (A (6 + q), upd A (6 + q) y, n) else (BADi, A, n) := by
  have : q = 0 ∨ q = 1 ∨ q = 2 := by omega
  have c0 : (nI 0).toNatClampNeg = 0 := by decide
  have c1 : (nI 1).toNatClampNeg = 1 := by decide
  have c2 : (nI 2).toNatClampNeg = 2 := by decide
  have d0 : nI 0 = 0 := rfl
  have d1 : nI 1 = 1 := rfl
  have d2 : nI 2 = 2 := rfl
  rcases this with rfl | rfl | rfl
  · rw [sRule, c0, d0]; simp only [show ¬ (0 : Int32) = 1 by decide, show ¬ (0 : Int32) = 2 by decide, true_and, false_and, or_false, if_false]
  · rw [sRule, c1, d1]; simp only [show ¬ (1 : Int32) = 0 by decide, show ¬ (1 : Int32) = 2 by decide, true_and, false_and, or_false, false_or, if_false]
  · rw [sRule, c2, d2]; simp only [show ¬ (2 : Int32) = 0 by decide, show ¬ (2 : Int32) = 1 by decide, true_and, false_and, false_or, if_true]
theorem dX7_rule_0 : decode fX7_rule.2.1 0 = .ok (.iload_n 1, 1) := by decide +kernel
theorem dX7_rule_1 : decode fX7_rule.2.1 1 = .ok (.iconst 0, 1) := by decide +kernel
theorem dX7_rule_2 : decode fX7_rule.2.1 2 = .ok (.iconst 2, 1) := by decide +kernel
theorem dX7_rule_3 : decode fX7_rule.2.1 3 = .ok (.invokestatic 78, 3) := by decide +kernel
theorem dX7_rule_6 : decode fX7_rule.2.1 6 = .ok (.ifCond .eq 36, 3) := by decide +kernel
theorem dX7_rule_9 : decode fX7_rule.2.1 9 = .ok (.iload_n 2, 1) := by decide +kernel
theorem dX7_rule_10 : decode fX7_rule.2.1 10 = .ok (.iconst 0, 1) := by decide +kernel
theorem dX7_rule_11 : decode fX7_rule.2.1 11 = .ok (.iload_n 1, 1) := by decide +kernel
theorem dX7_rule_12 : decode fX7_rule.2.1 12 = .ok (.iconst 2, 1) := by decide +kernel
theorem dX7_rule_13 : decode fX7_rule.2.1 13 = .ok (.if_icmp .ne 9, 3) := by decide +kernel
theorem dX7_rule_16 : decode fX7_rule.2.1 16 = .ok (.sipush 999, 3) := by decide +kernel
theorem dX7_rule_19 : decode fX7_rule.2.1 19 = .ok (.goto 5, 3) := by decide +kernel
theorem dX7_rule_22 : decode fX7_rule.2.1 22 = .ok (.bipush 100, 2) := by decide +kernel
theorem dX7_rule_24 : decode fX7_rule.2.1 24 = .ok (.invokestatic 78, 3) := by decide +kernel
theorem dX7_rule_27 : decode fX7_rule.2.1 27 = .ok (.ifCond .eq 15, 3) := by decide +kernel
theorem dX7_rule_30 : decode fX7_rule.2.1 30 = .ok (.aload_n 0, 1) := by decide +kernel
theorem dX7_rule_31 : decode fX7_rule.2.1 31 = .ok (.bipush 6, 2) := by decide +kernel
theorem dX7_rule_33 : decode fX7_rule.2.1 33 = .ok (.iload_n 1, 1) := by decide +kernel
theorem dX7_rule_34 : decode fX7_rule.2.1 34 = .ok (.iadd, 1) := by decide +kernel
theorem dX7_rule_35 : decode fX7_rule.2.1 35 = .ok (.iload_n 2, 1) := by decide +kernel
theorem dX7_rule_36 : decode fX7_rule.2.1 36 = .ok (.invokevirtual 142, 3) := by decide +kernel
theorem dX7_rule_39 : decode fX7_rule.2.1 39 = .ok (.goto 5, 3) := by decide +kernel
theorem dX7_rule_42 : decode fX7_rule.2.1 42 = .ok (.ldc 127, 2) := by decide +kernel
theorem dX7_rule_44 : decode fX7_rule.2.1 44 = .ok (.ireturn, 1) := by decide +kernel
set_option maxRecDepth 100000 in
set_option maxHeartbeats 4000000 in
theorem ok_X7_rule {X : Xb} {S : Sg} {mi : Mem} {o n : Nat} {A : Nat → Int32} {w y : Int32} (hM : MdA S o) (hn8 : n ≤ 8) (hA : mi (o + 1) = A) (hn : A 1 = nI n) : Ok 2 0 0 fX7_rule X [rf X o, .int w, .int y] S mi (PM S mi o (sRule A n w y)) := by
  refine Ok.go [some (rf X o), some (.int w), some (.int y)] (by decide) (by simp [Value.category]) (Nat.le_of_ble_eq_true rfl) rfl ?_
  obtain ⟨k_o, ⟨r_o_now, k_o_now⟩, ⟨r_o_image, k_o_image⟩, ⟨r_o_aside, k_o_aside⟩, ⟨r_o_seen, k_o_seen⟩, ⟨r_o_unlike, k_o_unlike⟩, ⟨r_o_tape, k_o_tape⟩, ⟨r_o_keys, k_o_keys⟩, ⟨r_o_keyAt, k_o_keyAt⟩, ⟨r_o_code, k_o_code⟩, ⟨r_o_waits, k_o_waits⟩, ⟨r_o_tested, k_o_tested⟩, ⟨r_o_stack, k_o_stack⟩, ⟨r_o_facts, k_o_facts⟩, ⟨r_o_sorts, k_o_sorts⟩, ⟨r_o_sizes, k_o_sizes⟩, ⟨r_o_cells, k_o_cells⟩, ⟨r_o_holds, k_o_holds⟩, ⟨r_o_holdsA, k_o_holdsA⟩, ⟨r_o_holdsB, k_o_holdsB⟩, ⟨r_o_heldCells, k_o_heldCells⟩, ⟨r_o_moved, k_o_moved⟩, ⟨r_o_tells, k_o_tells⟩⟩ := id hM
  have z := FrM.rf o mi
  have s24 : ∀ q : Nat, q < 3 → w = nI q → MW X fX7_rule (rmOf 2 0 0) 0 0 24 [some (rf X o), some (.int (nI q)), some (.int y)] [.int (if nI q = 2 then 999 else 100), .int 0, .int y] S mi (mQ X 0 0 (PM S mi o (sRule A n w y))) := by
    intro q hq hw
    refine mw_cSI (g := fX7_in) dX7_rule_24 ml_X7_78 mfX7_in (ok_X7_in) rfl rfl (Nat.le_of_ble_eq_true rfl) ⟨by decide, by decide⟩ ⟨by decide, by decide⟩ ?_
    refine mw_if_eqB (tgt := 42) dX7_rule_27 (by decide) (fun h27 => ?_) (fun h27 => ?_)
    · skip
      refine mw_ldc dX7_rule_42 cn_X7_127 ?_
      exact mw_iret dX7_rule_44 rfl (by decide) (by decide) (by first | (rw [hw, sRule_ok hq, if_pos h27]; exact ⟨by rw [hA], rfl, by rw [m_up_row, hA], z.up⟩) | (rw [hw, sRule_ok hq, if_neg h27]; exact ⟨rfl, rfl, hA, z⟩) | fail "leaf")
    · skip
      refine mw_aload_n dX7_rule_30 rfl ?_
      refine mw_bipush (v := 6) dX7_rule_31 (by decide) ?_
      refine mw_iload_n dX7_rule_33 rfl ?_
      refine mw_iadd dX7_rule_34 ?_
      rw [ix6 q]
      refine mw_iload_n dX7_rule_35 rfl ?_
      refine mw_cVI (g := fX7_swaps) dX7_rule_36 ml_X7_142 mfX7_swaps (ok_X7_swaps hM (s := 6 + q) (by omega)) (by assumption) rfl rfl (Nat.le_of_ble_eq_true rfl) ⟨by decide, by decide⟩ ⟨by decide, by decide⟩ ?_
      refine mw_goto (tgt := 44) dX7_rule_39 (by decide) ?_
      exact mw_iret dX7_rule_44 rfl (by decide) (by decide) (by first | (rw [hw, sRule_ok hq, if_pos h27]; exact ⟨by rw [hA], rfl, by rw [m_up_row, hA], z.up⟩) | (rw [hw, sRule_ok hq, if_neg h27]; exact ⟨rfl, rfl, hA, z⟩) | fail "leaf")
  refine mw_iload_n dX7_rule_0 rfl ?_
  refine mw_iconst (v := 0) dX7_rule_1 (by decide) ?_
  refine mw_iconst (v := 2) dX7_rule_2 (by decide) ?_
  refine mw_cSI (g := fX7_in) dX7_rule_3 ml_X7_78 mfX7_in (ok_X7_in) rfl rfl (Nat.le_of_ble_eq_true rfl) ⟨by decide, by decide⟩ ⟨by decide, by decide⟩ ?_
  refine mw_if_eqB (tgt := 42) dX7_rule_6 (by decide) (fun h6 => ?_) (fun h6 => ?_)
  · skip
    refine mw_ldc dX7_rule_42 cn_X7_127 ?_
    exact mw_iret dX7_rule_44 rfl (by decide) (by decide) (by rw [sRule_bad h6]; exact ⟨rfl, rfl, hA, z⟩)
  · skip
    obtain ⟨q, hq, hw⟩ := in2 h6
    refine mw_iload_n dX7_rule_9 rfl ?_
    refine mw_iconst (v := 0) dX7_rule_10 (by decide) ?_
    refine mw_iload_n dX7_rule_11 rfl ?_
    refine mw_iconst (v := 2) dX7_rule_12 (by decide) ?_
    refine mw_icmp_ne (tgt := 22) dX7_rule_13 (by decide) (fun h13 => ?_) (fun h13 => ?_)
    · skip
      refine mw_bipush (v := 100) dX7_rule_22 (by decide) ?_
      have h13' := h13
      rw [hw] at h13'
      first
        | (have e := s24 q hq hw; rw [if_pos h13', ← hw] at e; exact e)
        | (have e := s24 q hq hw; rw [if_neg h13', ← hw] at e; exact e)
    · skip
      refine mw_sipush (v := 999) dX7_rule_16 (by decide) ?_
      refine mw_goto (tgt := 24) dX7_rule_19 (by decide) ?_
      have h13' := h13
      rw [hw] at h13'
      first
        | (have e := s24 q hq hw; rw [if_pos h13', ← hw] at e; exact e)
        | (have e := s24 q hq hw; rw [if_neg h13', ← hw] at e; exact e)
theorem dX7_sumOf_0 : decode fX7_sumOf.2.1 0 = .ok (.iconst 0, 1) := by decide +kernel
theorem dX7_sumOf_1 : decode fX7_sumOf.2.1 1 = .ok (.istore_n 2, 1) := by decide +kernel
theorem dX7_sumOf_2 : decode fX7_sumOf.2.1 2 = .ok (.iconst 0, 1) := by decide +kernel
theorem dX7_sumOf_3 : decode fX7_sumOf.2.1 3 = .ok (.istore_n 3, 1) := by decide +kernel
theorem dX7_sumOf_4 : decode fX7_sumOf.2.1 4 = .ok (.iload_n 3, 1) := by decide +kernel
theorem dX7_sumOf_5 : decode fX7_sumOf.2.1 5 = .ok (.aload_n 0, 1) := by decide +kernel
theorem dX7_sumOf_6 : decode fX7_sumOf.2.1 6 = .ok (.getfield 9, 3) := by decide +kernel
theorem dX7_sumOf_9 : decode fX7_sumOf.2.1 9 = .ok (.iconst 1, 1) := by decide +kernel
theorem dX7_sumOf_10 : decode fX7_sumOf.2.1 10 = .ok (.iaload, 1) := by decide +kernel
theorem dX7_sumOf_11 : decode fX7_sumOf.2.1 11 = .ok (.if_icmp .ge 31, 3) := by decide +kernel
theorem dX7_sumOf_14 : decode fX7_sumOf.2.1 14 = .ok (.iload_n 2, 1) := by decide +kernel
theorem dX7_sumOf_15 : decode fX7_sumOf.2.1 15 = .ok (.iload_n 1, 1) := by decide +kernel
theorem dX7_sumOf_16 : decode fX7_sumOf.2.1 16 = .ok (.iconst 5, 1) := by decide +kernel
theorem dX7_sumOf_17 : decode fX7_sumOf.2.1 17 = .ok (.if_icmp .ne 11, 3) := by decide +kernel
theorem dX7_sumOf_20 : decode fX7_sumOf.2.1 20 = .ok (.aload_n 0, 1) := by decide +kernel
theorem dX7_sumOf_21 : decode fX7_sumOf.2.1 21 = .ok (.iload_n 3, 1) := by decide +kernel
theorem dX7_sumOf_22 : decode fX7_sumOf.2.1 22 = .ok (.invokevirtual 135, 3) := by decide +kernel
theorem dX7_sumOf_25 : decode fX7_sumOf.2.1 25 = .ok (.goto 9, 3) := by decide +kernel
theorem dX7_sumOf_28 : decode fX7_sumOf.2.1 28 = .ok (.aload_n 0, 1) := by decide +kernel
theorem dX7_sumOf_29 : decode fX7_sumOf.2.1 29 = .ok (.iload_n 3, 1) := by decide +kernel
theorem dX7_sumOf_30 : decode fX7_sumOf.2.1 30 = .ok (.iload_n 1, 1) := by decide +kernel
theorem dX7_sumOf_31 : decode fX7_sumOf.2.1 31 = .ok (.invokevirtual 86, 3) := by decide +kernel
theorem dX7_sumOf_34 : decode fX7_sumOf.2.1 34 = .ok (.iadd, 1) := by decide +kernel
theorem dX7_sumOf_35 : decode fX7_sumOf.2.1 35 = .ok (.istore_n 2, 1) := by decide +kernel
theorem dX7_sumOf_36 : decode fX7_sumOf.2.1 36 = .ok (.iinc 3 1, 3) := by decide +kernel
theorem dX7_sumOf_39 : decode fX7_sumOf.2.1 39 = .ok (.goto (-35), 3) := by decide +kernel
theorem dX7_sumOf_42 : decode fX7_sumOf.2.1 42 = .ok (.iload_n 2, 1) := by decide +kernel
theorem dX7_sumOf_43 : decode fX7_sumOf.2.1 43 = .ok (.ireturn, 1) := by decide +kernel
set_option maxRecDepth 100000 in
set_option maxHeartbeats 4000000 in
theorem ok_X7_sumOf {X : Xb} {S : Sg} {mi : Mem} {o n w : Nat} (hM : MdA S o) (hn : mi (o + 1) 1 = nI n) (hn8 : n ≤ 8) (hw : w < 5) : OkI 5 fX7_sumOf X [rf X o, .int (nI w)] S mi (fld (fun s i => s + mi (o + 1) (26 + 5 * i + w)) 0 n) mi := by
  refine Ok.go [some (rf X o), some (.int (nI w)), none, none] (by decide) (by simp [Value.category]) (Nat.le_of_ble_eq_true rfl) rfl ?_
  obtain ⟨k_o, ⟨r_o_now, k_o_now⟩, ⟨r_o_image, k_o_image⟩, ⟨r_o_aside, k_o_aside⟩, ⟨r_o_seen, k_o_seen⟩, ⟨r_o_unlike, k_o_unlike⟩, ⟨r_o_tape, k_o_tape⟩, ⟨r_o_keys, k_o_keys⟩, ⟨r_o_keyAt, k_o_keyAt⟩, ⟨r_o_code, k_o_code⟩, ⟨r_o_waits, k_o_waits⟩, ⟨r_o_tested, k_o_tested⟩, ⟨r_o_stack, k_o_stack⟩, ⟨r_o_facts, k_o_facts⟩, ⟨r_o_sorts, k_o_sorts⟩, ⟨r_o_sizes, k_o_sizes⟩, ⟨r_o_cells, k_o_cells⟩, ⟨r_o_holds, k_o_holds⟩, ⟨r_o_holdsA, k_o_holdsA⟩, ⟨r_o_holdsB, k_o_holdsB⟩, ⟨r_o_heldCells, k_o_heldCells⟩, ⟨r_o_moved, k_o_moved⟩, ⟨r_o_tells, k_o_tells⟩⟩ := id hM
  have e5 : ¬ nI w = 5 := fun q => by have := (nI_eq (b := 5) (by omega) (by decide)).mp q; omega
  have lp := mw_dn (P := fun k => MW X fX7_sumOf (rmOf 5 0 0) 0 0 4 [some (rf X o), some (.int (nI w)), some (.int (fld (fun s i => s + mi (o + 1) (26 + 5 * i + w)) 0 k)), some (.int (nI k))] [] S mi (mQ X 0 0 (pI (fld (fun s i => s + mi (o + 1) (26 + 5 * i + w)) 0 n) S mi))) n (by
    refine mw_iload_n dX7_sumOf_4 rfl ?_
    refine mw_aload_n dX7_sumOf_5 rfl ?_
    refine mw_getr dX7_sumOf_6 fl_X7_9 rfl (by assumption) (by assumption) ?_
    refine mw_iconst (v := 1) dX7_sumOf_9 (by decide) ?_
    refine mw_ialdK (k := 1) dX7_sumOf_10 (by assumption) (rfl) (by decide) (by decide) ?_
    rw [hn]
    refine mw_icmp_ge (tgt := 42) dX7_sumOf_11 (by decide) (fun h11 => ?_) (fun h11 => ?_)
    · skip
      refine mw_iload_n dX7_sumOf_42 rfl ?_
      exact mw_iret dX7_sumOf_43 rfl (by decide) (by decide) (⟨rfl, rfl, rfl⟩)
    · skip
      exact absurd (Int32.le_refl _) h11) (fun k hk ih => by
    refine mw_iload_n dX7_sumOf_4 rfl ?_
    refine mw_aload_n dX7_sumOf_5 rfl ?_
    refine mw_getr dX7_sumOf_6 fl_X7_9 rfl (by assumption) (by assumption) ?_
    refine mw_iconst (v := 1) dX7_sumOf_9 (by decide) ?_
    refine mw_ialdK (k := 1) dX7_sumOf_10 (by assumption) (rfl) (by decide) (by decide) ?_
    rw [hn]
    refine mw_icmp_ge (tgt := 42) dX7_sumOf_11 (by decide) (fun h11 => ?_) (fun h11 => ?_)
    · skip
      exact absurd h11 (nI_ge hk (by omega))
    · skip
      refine mw_iload_n dX7_sumOf_14 rfl ?_
      refine mw_iload_n dX7_sumOf_15 rfl ?_
      refine mw_iconst (v := 5) dX7_sumOf_16 (by decide) ?_
      refine mw_icmp_ne (tgt := 28) dX7_sumOf_17 (by decide) (fun h17 => ?_) (fun h17 => ?_)
      · skip
        refine mw_aload_n dX7_sumOf_28 rfl ?_
        refine mw_iload_n dX7_sumOf_29 rfl ?_
        refine mw_iload_n dX7_sumOf_30 rfl ?_
        refine mw_cVI (g := fX7_of) dX7_sumOf_31 ml_X7_86 mfX7_of (ok_X7_of hM (a := k) (w := w) (by omega) hw) (by assumption) rfl rfl (Nat.le_of_ble_eq_true rfl) ⟨by decide, by decide⟩ ⟨by decide, by decide⟩ ?_
        refine mw_iadd dX7_sumOf_34 ?_
        refine mw_istN 2 dX7_sumOf_35 rfl (by decide) ?_
        refine mw_iincK (k := k) dX7_sumOf_36 rfl rfl (by decide) ?_
        refine mw_goto (tgt := 4) dX7_sumOf_39 (by decide) ?_
        exact MW.sub (by simp [lsub, fld]) ih
      · skip
        exact absurd h17 e5)
  refine mw_iconst (v := 0) dX7_sumOf_0 (by decide) ?_
  refine mw_istN 2 dX7_sumOf_1 rfl (by decide) ?_
  refine mw_iconst (v := 0) dX7_sumOf_2 (by decide) ?_
  refine mw_istN 3 dX7_sumOf_3 rfl (by decide) ?_
  exact MW.sub (by simp [lsub, fld, nI_0]) lp
theorem dX7_dark_0 : decode fX7_dark.2.1 0 = .ok (.sipush 255, 3) := by decide +kernel
theorem dX7_dark_3 : decode fX7_dark.2.1 3 = .ok (.istore_n 1, 1) := by decide +kernel
theorem dX7_dark_4 : decode fX7_dark.2.1 4 = .ok (.iconst 0, 1) := by decide +kernel
theorem dX7_dark_5 : decode fX7_dark.2.1 5 = .ok (.istore_n 2, 1) := by decide +kernel
theorem dX7_dark_6 : decode fX7_dark.2.1 6 = .ok (.iload_n 2, 1) := by decide +kernel
theorem dX7_dark_7 : decode fX7_dark.2.1 7 = .ok (.aload_n 0, 1) := by decide +kernel
theorem dX7_dark_8 : decode fX7_dark.2.1 8 = .ok (.getfield 9, 3) := by decide +kernel
theorem dX7_dark_11 : decode fX7_dark.2.1 11 = .ok (.iconst 1, 1) := by decide +kernel
theorem dX7_dark_12 : decode fX7_dark.2.1 12 = .ok (.iaload, 1) := by decide +kernel
theorem dX7_dark_13 : decode fX7_dark.2.1 13 = .ok (.if_icmp .ge 19, 3) := by decide +kernel
theorem dX7_dark_16 : decode fX7_dark.2.1 16 = .ok (.iload_n 1, 1) := by decide +kernel
theorem dX7_dark_17 : decode fX7_dark.2.1 17 = .ok (.aload_n 0, 1) := by decide +kernel
theorem dX7_dark_18 : decode fX7_dark.2.1 18 = .ok (.iload_n 2, 1) := by decide +kernel
theorem dX7_dark_19 : decode fX7_dark.2.1 19 = .ok (.invokevirtual 104, 3) := by decide +kernel
theorem dX7_dark_22 : decode fX7_dark.2.1 22 = .ok (.iconst (-1), 1) := by decide +kernel
theorem dX7_dark_23 : decode fX7_dark.2.1 23 = .ok (.ixor, 1) := by decide +kernel
theorem dX7_dark_24 : decode fX7_dark.2.1 24 = .ok (.iand, 1) := by decide +kernel
theorem dX7_dark_25 : decode fX7_dark.2.1 25 = .ok (.istore_n 1, 1) := by decide +kernel
theorem dX7_dark_26 : decode fX7_dark.2.1 26 = .ok (.iinc 2 1, 3) := by decide +kernel
theorem dX7_dark_29 : decode fX7_dark.2.1 29 = .ok (.goto (-23), 3) := by decide +kernel
theorem dX7_dark_32 : decode fX7_dark.2.1 32 = .ok (.iload_n 1, 1) := by decide +kernel
theorem dX7_dark_33 : decode fX7_dark.2.1 33 = .ok (.ireturn, 1) := by decide +kernel
set_option maxRecDepth 100000 in
set_option maxHeartbeats 4000000 in
theorem ok_X7_dark {X : Xb} {S : Sg} {mi : Mem} {o n : Nat} (hM : MdA S o) (hn : mi (o + 1) 1 = nI n) (hn8 : n ≤ 8) : OkI 4 fX7_dark X [rf X o] S mi (fld (fun s i => s &&& (rSees (mi (o + 1)) i ^^^ (-1))) 255 n) mi := by
  refine Ok.go [some (rf X o), none, none] (by decide) (by simp [Value.category]) (Nat.le_of_ble_eq_true rfl) rfl ?_
  obtain ⟨k_o, ⟨r_o_now, k_o_now⟩, ⟨r_o_image, k_o_image⟩, ⟨r_o_aside, k_o_aside⟩, ⟨r_o_seen, k_o_seen⟩, ⟨r_o_unlike, k_o_unlike⟩, ⟨r_o_tape, k_o_tape⟩, ⟨r_o_keys, k_o_keys⟩, ⟨r_o_keyAt, k_o_keyAt⟩, ⟨r_o_code, k_o_code⟩, ⟨r_o_waits, k_o_waits⟩, ⟨r_o_tested, k_o_tested⟩, ⟨r_o_stack, k_o_stack⟩, ⟨r_o_facts, k_o_facts⟩, ⟨r_o_sorts, k_o_sorts⟩, ⟨r_o_sizes, k_o_sizes⟩, ⟨r_o_cells, k_o_cells⟩, ⟨r_o_holds, k_o_holds⟩, ⟨r_o_holdsA, k_o_holdsA⟩, ⟨r_o_holdsB, k_o_holdsB⟩, ⟨r_o_heldCells, k_o_heldCells⟩, ⟨r_o_moved, k_o_moved⟩, ⟨r_o_tells, k_o_tells⟩⟩ := id hM
  have lp := mw_dn (P := fun k => MW X fX7_dark (rmOf 4 0 0) 0 0 6 [some (rf X o), some (.int (fld (fun s i => s &&& (rSees (mi (o + 1)) i ^^^ (-1))) 255 k)), some (.int (nI k))] [] S mi (mQ X 0 0 (pI (fld (fun s i => s &&& (rSees (mi (o + 1)) i ^^^ (-1))) 255 n) S mi))) n (by
    refine mw_iload_n dX7_dark_6 rfl ?_
    refine mw_aload_n dX7_dark_7 rfl ?_
    refine mw_getr dX7_dark_8 fl_X7_9 rfl (by assumption) (by assumption) ?_
    refine mw_iconst (v := 1) dX7_dark_11 (by decide) ?_
    refine mw_ialdK (k := 1) dX7_dark_12 (by assumption) (rfl) (by decide) (by decide) ?_
    rw [hn]
    refine mw_icmp_ge (tgt := 32) dX7_dark_13 (by decide) (fun h13 => ?_) (fun h13 => ?_)
    · skip
      refine mw_iload_n dX7_dark_32 rfl ?_
      exact mw_iret dX7_dark_33 rfl (by decide) (by decide) (⟨rfl, rfl, rfl⟩)
    · skip
      exact absurd (Int32.le_refl _) h13) (fun k hk ih => by
    refine mw_iload_n dX7_dark_6 rfl ?_
    refine mw_aload_n dX7_dark_7 rfl ?_
    refine mw_getr dX7_dark_8 fl_X7_9 rfl (by assumption) (by assumption) ?_
    refine mw_iconst (v := 1) dX7_dark_11 (by decide) ?_
    refine mw_ialdK (k := 1) dX7_dark_12 (by assumption) (rfl) (by decide) (by decide) ?_
    rw [hn]
    refine mw_icmp_ge (tgt := 32) dX7_dark_13 (by decide) (fun h13 => ?_) (fun h13 => ?_)
    · skip
      exact absurd h13 (nI_ge hk (by omega))
    · skip
      refine mw_iload_n dX7_dark_16 rfl ?_
      refine mw_aload_n dX7_dark_17 rfl ?_
      refine mw_iload_n dX7_dark_18 rfl ?_
      refine mw_cVI (g := fX7_sees) dX7_dark_19 ml_X7_104 mfX7_sees (ok_X7_sees hM (by omega)) (by assumption) rfl rfl (Nat.le_of_ble_eq_true rfl) ⟨by decide, by decide⟩ ⟨by decide, by decide⟩ ?_
      refine mw_iconst (v := (-1)) dX7_dark_22 (by decide) ?_
      refine mw_ixor dX7_dark_23 ?_
      refine mw_iand dX7_dark_24 ?_
      refine mw_istN 1 dX7_dark_25 rfl (by decide) ?_
      refine mw_iincK (k := k) dX7_dark_26 rfl rfl (by decide) ?_
      refine mw_goto (tgt := 6) dX7_dark_29 (by decide) ?_
      exact MW.sub (by simp [lsub, fld]) ih)
  refine mw_sipush (v := 255) dX7_dark_0 (by decide) ?_
  refine mw_istN 1 dX7_dark_3 rfl (by decide) ?_
  refine mw_iconst (v := 0) dX7_dark_4 (by decide) ?_
  refine mw_istN 2 dX7_dark_5 rfl (by decide) ?_
  exact MW.sub (by simp [lsub, fld, nI_0]) lp
/-- hours, one behind another -/
def mHours (lw : LawT) (n : Nat) (A : Nat → Int32) : Nat → Nat → Int32
  | 0 => A
  | k + 1 => mHourF lw n (mHours lw n A k)
theorem hSm_lo {A B : Nat → Int32} {j : Nat} (h0 : j ≠ 0) (h9 : j ≠ 9) : hSm A B j = B j := by
  unfold hSm; split
  · simp [upd, h0, h9]
  · rfl
theorem mHourF_lo {lw : LawT} {n j : Nat} {A : Nat → Int32} (hj : j < 26) (h0 : j ≠ 0) (h2 : j ≠ 2) (h3 : j ≠ 3) (h4 : j ≠ 4) (h9 : j ≠ 9) : mHourF lw n A j = A j := by
  have e1 : mPay lw n A j = A j := by
    unfold mPay; split
    · simp [upd, hA0, h0, h4]
    · rw [mPaysTo_lo hj h3]; simp [hA0, upd, h0]
  have e2 : ∀ B, mWage n B j = B j := by
    intro B; unfold mWage; split
    · exact mWageTo_lo hj n
    · rfl
  simp only [mHourF, hEnd, upd, h2, if_false]
  rw [e2, hSm_lo h0 h9, e1]
theorem mHourF_hi {lw : LawT} {n : Nat} {A : Nat → Int32} (hn : n ≤ 8) : tail66 A (mHourF lw n A) := by
  have e1 : tail66 A (mPay lw n A) := by
    unfold mPay; split
    · exact ((tail66.rf A).up (by decide)).up (by decide)
    · intro j hj; rw [mPaysTo_hi n hn j hj]; exact ((tail66.rf A).up (by decide)) j hj
  have e2 : tail66 A (hSm A (mPay lw n A)) := by
    unfold hSm; split
    · exact (e1.up (by decide)).up (by decide)
    · exact e1
  have e3 : tail66 A (mWage n (hSm A (mPay lw n A))) := by
    unfold mWage; split
    · intro j hj; rw [mWageTo_hi n hn j hj]; exact e2 j hj
    · exact e2
  exact e3.up (by decide)
theorem mHours_lo {lw : LawT} {n j : Nat} {A : Nat → Int32} (hj : j < 26) (h0 : j ≠ 0) (h2 : j ≠ 2) (h3 : j ≠ 3) (h4 : j ≠ 4) (h9 : j ≠ 9) : ∀ k, mHours lw n A k j = A j
  | 0 => rfl
  | k + 1 => by simp only [mHours]; rw [mHourF_lo hj h0 h2 h3 h4 h9]; exact mHours_lo hj h0 h2 h3 h4 h9 k
theorem mHours_hi {lw : LawT} {n : Nat} {A : Nat → Int32} (hn : n ≤ 8) : ∀ k, tail66 A (mHours lw n A k)
  | 0 => tail66.rf A
  | k + 1 => fun j hj => (mHourF_hi hn j hj).trans (mHours_hi hn k j hj)
theorem dX7_goesOn_0 : decode fX7_goesOn.2.1 0 = .ok (.iconst 0, 1) := by decide +kernel
theorem dX7_goesOn_1 : decode fX7_goesOn.2.1 1 = .ok (.istore_n 2, 1) := by decide +kernel
theorem dX7_goesOn_2 : decode fX7_goesOn.2.1 2 = .ok (.iload_n 2, 1) := by decide +kernel
theorem dX7_goesOn_3 : decode fX7_goesOn.2.1 3 = .ok (.iload_n 1, 1) := by decide +kernel
theorem dX7_goesOn_4 : decode fX7_goesOn.2.1 4 = .ok (.if_icmp .ge 13, 3) := by decide +kernel
theorem dX7_goesOn_7 : decode fX7_goesOn.2.1 7 = .ok (.aload_n 0, 1) := by decide +kernel
theorem dX7_goesOn_8 : decode fX7_goesOn.2.1 8 = .ok (.invokevirtual 160, 3) := by decide +kernel
theorem dX7_goesOn_11 : decode fX7_goesOn.2.1 11 = .ok (.iinc 2 1, 3) := by decide +kernel
theorem dX7_goesOn_14 : decode fX7_goesOn.2.1 14 = .ok (.goto (-12), 3) := by decide +kernel
theorem dX7_goesOn_17 : decode fX7_goesOn.2.1 17 = .ok (.return_, 1) := by decide +kernel
set_option maxRecDepth 100000 in
set_option maxHeartbeats 4000000 in
theorem ok_X7_goesOn {X : Xb} {S : Sg} {mi : Mem} {o n t q : Nat} {A : Nat → Int32} {lw : LawT} (hM : MdA S o) (hn8 : n ≤ 8) (hA : mi (o + 1) = A) (hn : A 1 = nI n) (ht : A 5 = nI t) (ht14 : t ≤ 14) (hx : MtOk A t) (hl : lwM A 0 t = lw) (hq : q < 2 ^ 31) : Ok 7 0 0 fX7_goesOn X [rf X o, .int (nI q)] S mi (fun r S' m => r = none ∧ S' = S ∧ m (o + 1) = mHours lw n A q ∧ FrM o mi m) := by
  refine Ok.go [some (rf X o), some (.int (nI q)), none] (by decide) (by simp [Value.category]) (Nat.le_of_ble_eq_true rfl) rfl ?_
  obtain ⟨k_o, ⟨r_o_now, k_o_now⟩, ⟨r_o_image, k_o_image⟩, ⟨r_o_aside, k_o_aside⟩, ⟨r_o_seen, k_o_seen⟩, ⟨r_o_unlike, k_o_unlike⟩, ⟨r_o_tape, k_o_tape⟩, ⟨r_o_keys, k_o_keys⟩, ⟨r_o_keyAt, k_o_keyAt⟩, ⟨r_o_code, k_o_code⟩, ⟨r_o_waits, k_o_waits⟩, ⟨r_o_tested, k_o_tested⟩, ⟨r_o_stack, k_o_stack⟩, ⟨r_o_facts, k_o_facts⟩, ⟨r_o_sorts, k_o_sorts⟩, ⟨r_o_sizes, k_o_sizes⟩, ⟨r_o_cells, k_o_cells⟩, ⟨r_o_holds, k_o_holds⟩, ⟨r_o_holdsA, k_o_holdsA⟩, ⟨r_o_holdsB, k_o_holdsB⟩, ⟨r_o_heldCells, k_o_heldCells⟩, ⟨r_o_moved, k_o_moved⟩, ⟨r_o_tells, k_o_tells⟩⟩ := id hM
  have lp := mw_dn (P := fun k => ∀ m, m (o + 1) = mHours lw n A k → FrM o mi m → MW X fX7_goesOn (rmOf 7 0 0) 0 0 2 [some (rf X o), some (.int (nI q)), some (.int (nI k))] [] S m (mQ X 0 0 (fun r S' m => r = none ∧ S' = S ∧ m (o + 1) = mHours lw n A q ∧ FrM o mi m))) q (by
    intro m hm hF
    refine mw_iload_n dX7_goesOn_2 rfl ?_
    refine mw_iload_n dX7_goesOn_3 rfl ?_
    refine mw_icmp_ge (tgt := 17) dX7_goesOn_4 (by decide) (fun h4 => ?_) (fun h4 => ?_)
    · skip
      exact mw_vret dX7_goesOn_17 rfl (by decide) (by decide) (⟨rfl, rfl, hm, hF⟩)
    · skip
      exact absurd (Int32.le_refl _) h4) (fun k hk ih => by
    intro m hm hF
    have e1 : m (o + 1) 1 = nI n := by rw [hm, mHours_lo (by decide) (by decide) (by decide) (by decide) (by decide) (by decide), hn]
    have e5 : m (o + 1) 5 = nI t := by rw [hm, mHours_lo (by decide) (by decide) (by decide) (by decide) (by decide) (by decide), ht]
    have tl : tail66 A (m (o + 1)) := by rw [hm]; exact mHours_hi hn8 k
    have el : lwM (m (o + 1)) 0 t = lw := (lwM_congr tl).trans hl
    refine mw_iload_n dX7_goesOn_2 rfl ?_
    refine mw_iload_n dX7_goesOn_3 rfl ?_
    refine mw_icmp_ge (tgt := 17) dX7_goesOn_4 (by decide) (fun h4 => ?_) (fun h4 => ?_)
    · skip
      exact absurd h4 (nI_ge hk hq)
    · skip
      refine mw_aload_n dX7_goesOn_7 rfl ?_
      refine mw_callV (g := fX7_hour) dX7_goesOn_8 ml_X7_160 mfX7_hour (ok_X7_hour hM e1 hn8 e5 ht14 (hx.congr tl)) (by assumption) rfl rfl (Nat.le_of_ble_eq_true rfl) ⟨by decide, by decide⟩ ⟨by decide, by decide⟩ (fun r S2 mi2 hp => ?_)
      obtain ⟨rfl, e2, hm3, hf3⟩ := hp
      rw [e2]
      rw [el, hm] at hm3
      refine mw_iincK (k := k) dX7_goesOn_11 rfl rfl (by decide) ?_
      refine mw_goto (tgt := 2) dX7_goesOn_14 (by decide) ?_
      exact MW.sub (by simp [lsub]) (ih _ hm3 (hF.tr hf3)))
  refine mw_iconst (v := 0) dX7_goesOn_0 (by decide) ?_
  refine mw_istN 2 dX7_goesOn_1 rfl (by decide) ?_
  exact MW.sub (by simp [lsub, nI_0]) (lp mi hA (FrM.rf o mi))
