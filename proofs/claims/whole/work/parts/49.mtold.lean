/-! textTold of the model -/
theorem inTx {v : Int32} {n : Nat} (h : 0 ≤ v ∧ v ≤ nI n - 1) (hn : n ≤ 14) : ∃ a, a < n ∧ v = nI a := by
  have h0 : ¬ v < 0 := Int32.not_lt.mpr h.1
  obtain ⟨j, hj, rfl⟩ := nI_of h0
  by_cases c : n = 0
  · subst c
    exact absurd h.2 (by have e : nI 0 - 1 = -1 := by decide
                         rw [e]
                         exact fun q => absurd (Int32.le_trans h.1 q) (by decide))
  · rw [nI_sub1 (by omega)] at h
    exact ⟨j, by have := (nI_leI hj (by omega)).mp h.2; omega, rfl⟩
def mTextTold (A : Nat → Int32) (n : Nat) (v w : Int32) : Int32 := if (0 ≤ v ∧ v ≤ nI n - 1) ∧ (0 ≤ w ∧ w ≤ 1) then (if w = 0 then A (66 + 2 * v.toNatClampNeg) / 1000 else A (66 + 2 * v.toNatClampNeg + 1)) else BADi
theorem dX7_textTold_0 : decode fX7_textTold.2.1 0 = .ok (.iload_n 1, 1) := by decide +kernel
theorem dX7_textTold_1 : decode fX7_textTold.2.1 1 = .ok (.iconst 0, 1) := by decide +kernel
theorem dX7_textTold_2 : decode fX7_textTold.2.1 2 = .ok (.aload_n 0, 1) := by decide +kernel
theorem dX7_textTold_3 : decode fX7_textTold.2.1 3 = .ok (.getfield 9, 3) := by decide +kernel
theorem dX7_textTold_6 : decode fX7_textTold.2.1 6 = .ok (.iconst 5, 1) := by decide +kernel
theorem dX7_textTold_7 : decode fX7_textTold.2.1 7 = .ok (.iaload, 1) := by decide +kernel
theorem dX7_textTold_8 : decode fX7_textTold.2.1 8 = .ok (.iconst 1, 1) := by decide +kernel
theorem dX7_textTold_9 : decode fX7_textTold.2.1 9 = .ok (.isub, 1) := by decide +kernel
theorem dX7_textTold_10 : decode fX7_textTold.2.1 10 = .ok (.invokestatic 78, 3) := by decide +kernel
theorem dX7_textTold_13 : decode fX7_textTold.2.1 13 = .ok (.ifCond .eq 12, 3) := by decide +kernel
theorem dX7_textTold_16 : decode fX7_textTold.2.1 16 = .ok (.iload_n 2, 1) := by decide +kernel
theorem dX7_textTold_17 : decode fX7_textTold.2.1 17 = .ok (.iconst 0, 1) := by decide +kernel
theorem dX7_textTold_18 : decode fX7_textTold.2.1 18 = .ok (.iconst 1, 1) := by decide +kernel
theorem dX7_textTold_19 : decode fX7_textTold.2.1 19 = .ok (.invokestatic 78, 3) := by decide +kernel
theorem dX7_textTold_22 : decode fX7_textTold.2.1 22 = .ok (.ifCond .ne 6, 3) := by decide +kernel
theorem dX7_textTold_25 : decode fX7_textTold.2.1 25 = .ok (.ldc 127, 2) := by decide +kernel
theorem dX7_textTold_27 : decode fX7_textTold.2.1 27 = .ok (.ireturn, 1) := by decide +kernel
theorem dX7_textTold_28 : decode fX7_textTold.2.1 28 = .ok (.iload_n 2, 1) := by decide +kernel
theorem dX7_textTold_29 : decode fX7_textTold.2.1 29 = .ok (.ifCond .ne 21, 3) := by decide +kernel
theorem dX7_textTold_32 : decode fX7_textTold.2.1 32 = .ok (.aload_n 0, 1) := by decide +kernel
theorem dX7_textTold_33 : decode fX7_textTold.2.1 33 = .ok (.getfield 9, 3) := by decide +kernel
theorem dX7_textTold_36 : decode fX7_textTold.2.1 36 = .ok (.bipush 66, 2) := by decide +kernel
theorem dX7_textTold_38 : decode fX7_textTold.2.1 38 = .ok (.iconst 2, 1) := by decide +kernel
theorem dX7_textTold_39 : decode fX7_textTold.2.1 39 = .ok (.iload_n 1, 1) := by decide +kernel
theorem dX7_textTold_40 : decode fX7_textTold.2.1 40 = .ok (.imul, 1) := by decide +kernel
theorem dX7_textTold_41 : decode fX7_textTold.2.1 41 = .ok (.iadd, 1) := by decide +kernel
theorem dX7_textTold_42 : decode fX7_textTold.2.1 42 = .ok (.iaload, 1) := by decide +kernel
theorem dX7_textTold_43 : decode fX7_textTold.2.1 43 = .ok (.sipush 1000, 3) := by decide +kernel
theorem dX7_textTold_46 : decode fX7_textTold.2.1 46 = .ok (.idiv, 1) := by decide +kernel
theorem dX7_textTold_47 : decode fX7_textTold.2.1 47 = .ok (.goto 16, 3) := by decide +kernel
theorem dX7_textTold_50 : decode fX7_textTold.2.1 50 = .ok (.aload_n 0, 1) := by decide +kernel
theorem dX7_textTold_51 : decode fX7_textTold.2.1 51 = .ok (.getfield 9, 3) := by decide +kernel
theorem dX7_textTold_54 : decode fX7_textTold.2.1 54 = .ok (.bipush 66, 2) := by decide +kernel
theorem dX7_textTold_56 : decode fX7_textTold.2.1 56 = .ok (.iconst 2, 1) := by decide +kernel
theorem dX7_textTold_57 : decode fX7_textTold.2.1 57 = .ok (.iload_n 1, 1) := by decide +kernel
theorem dX7_textTold_58 : decode fX7_textTold.2.1 58 = .ok (.imul, 1) := by decide +kernel
theorem dX7_textTold_59 : decode fX7_textTold.2.1 59 = .ok (.iadd, 1) := by decide +kernel
theorem dX7_textTold_60 : decode fX7_textTold.2.1 60 = .ok (.iconst 1, 1) := by decide +kernel
theorem dX7_textTold_61 : decode fX7_textTold.2.1 61 = .ok (.iadd, 1) := by decide +kernel
theorem dX7_textTold_62 : decode fX7_textTold.2.1 62 = .ok (.iaload, 1) := by decide +kernel
theorem dX7_textTold_63 : decode fX7_textTold.2.1 63 = .ok (.ireturn, 1) := by decide +kernel
set_option maxRecDepth 100000 in
set_option maxHeartbeats 4000000 in
theorem ok_X7_textTold {X : Xb} {S : Sg} {mi : Mem} {o n : Nat} {A : Nat → Int32} {v w : Int32} (hM : MdA S o) (hA : mi (o + 1) = A) (hn : A 5 = nI n) (hn14 : n ≤ 14) : Ok 1 0 0 fX7_textTold X [rf X o, .int v, .int w] S mi (fun r S' m => r = some (.int (mTextTold A n v w)) ∧ S' = S ∧ m = mi) := by
  refine Ok.go [some (rf X o), some (.int v), some (.int w)] (by decide) (by simp [Value.category]) (Nat.le_of_ble_eq_true rfl) rfl ?_
  obtain ⟨k_o, ⟨r_o_now, k_o_now⟩, ⟨r_o_image, k_o_image⟩, ⟨r_o_aside, k_o_aside⟩, ⟨r_o_seen, k_o_seen⟩, ⟨r_o_unlike, k_o_unlike⟩, ⟨r_o_tape, k_o_tape⟩, ⟨r_o_keys, k_o_keys⟩, ⟨r_o_keyAt, k_o_keyAt⟩, ⟨r_o_code, k_o_code⟩, ⟨r_o_waits, k_o_waits⟩, ⟨r_o_tested, k_o_tested⟩, ⟨r_o_stack, k_o_stack⟩, ⟨r_o_facts, k_o_facts⟩, ⟨r_o_sorts, k_o_sorts⟩, ⟨r_o_sizes, k_o_sizes⟩, ⟨r_o_cells, k_o_cells⟩, ⟨r_o_holds, k_o_holds⟩, ⟨r_o_holdsA, k_o_holdsA⟩, ⟨r_o_holdsB, k_o_holdsB⟩, ⟨r_o_heldCells, k_o_heldCells⟩, ⟨r_o_moved, k_o_moved⟩, ⟨r_o_tells, k_o_tells⟩⟩ := id hM
  have e5 : mi (o + 1) 5 = nI n := by rw [hA, hn]
  have go : ∀ a, a < n → v = nI a → (0 ≤ v ∧ v ≤ nI n - 1) → (0 ≤ w ∧ w ≤ 1) → MW X fX7_textTold (rmOf 1 0 0) 0 0 28 [some (rf X o), some (.int (nI a)), some (.int w)] [] S mi (mQ X 0 0 (fun r S' m => r = some (.int (mTextTold A n v w)) ∧ S' = S ∧ m = mi)) := by
    intro a han hv g1 g2
    have ev : v.toNatClampNeg = a := by rw [hv, nI_clamp (by omega)]
    have i0 : (66 : Int32) + 2 * nI a = nI (66 + 2 * a) := by show nI 66 + nI 2 * nI a = _; rw [nI_mul, nI_add]
    have i1 : (66 : Int32) + 2 * nI a + 1 = nI (66 + 2 * a + 1) := by rw [i0]; show nI _ + nI 1 = _; rw [nI_add]
    refine mw_iload_n dX7_textTold_28 rfl ?_
    refine mw_if_ne (tgt := 50) dX7_textTold_29 (by decide) (fun h29 => ?_) (fun h29 => ?_)
    · skip
      refine mw_aload_n dX7_textTold_50 rfl ?_
      refine mw_getr dX7_textTold_51 fl_X7_9 rfl (by assumption) (by assumption) ?_
      refine mw_bipush (v := 66) dX7_textTold_54 (by decide) ?_
      refine mw_iconst (v := 2) dX7_textTold_56 (by decide) ?_
      refine mw_iload_n dX7_textTold_57 rfl ?_
      refine mw_imul dX7_textTold_58 ?_
      refine mw_iadd dX7_textTold_59 ?_
      refine mw_iconst (v := 1) dX7_textTold_60 (by decide) ?_
      refine mw_iadd dX7_textTold_61 ?_
      refine mw_ialdK (k := 66 + 2 * a + 1) dX7_textTold_62 (by assumption) (i1) (by omega) (by decide) ?_
      exact mw_iret dX7_textTold_63 rfl (by decide) (by decide) (⟨by first | (rw [hA, mTextTold, if_pos ⟨g1, g2⟩, if_pos h29, ev]; done) | (rw [hA, mTextTold, if_pos ⟨g1, g2⟩, if_neg h29, ev]; done), rfl, rfl⟩)
    · skip
      refine mw_aload_n dX7_textTold_32 rfl ?_
      refine mw_getr dX7_textTold_33 fl_X7_9 rfl (by assumption) (by assumption) ?_
      refine mw_bipush (v := 66) dX7_textTold_36 (by decide) ?_
      refine mw_iconst (v := 2) dX7_textTold_38 (by decide) ?_
      refine mw_iload_n dX7_textTold_39 rfl ?_
      refine mw_imul dX7_textTold_40 ?_
      refine mw_iadd dX7_textTold_41 ?_
      refine mw_ialdK (k := 66 + 2 * a) dX7_textTold_42 (by assumption) (i0) (by omega) (by decide) ?_
      refine mw_sipush (v := 1000) dX7_textTold_43 (by decide) ?_
      refine mw_idiv dX7_textTold_46 (by decide) ?_
      refine mw_goto (tgt := 63) dX7_textTold_47 (by decide) ?_
      exact mw_iret dX7_textTold_63 rfl (by decide) (by decide) (⟨by first | (rw [hA, mTextTold, if_pos ⟨g1, g2⟩, if_pos h29, ev]; done) | (rw [hA, mTextTold, if_pos ⟨g1, g2⟩, if_neg h29, ev]; done), rfl, rfl⟩)
  refine mw_iload_n dX7_textTold_0 rfl ?_
  refine mw_iconst (v := 0) dX7_textTold_1 (by decide) ?_
  refine mw_aload_n dX7_textTold_2 rfl ?_
  refine mw_getr dX7_textTold_3 fl_X7_9 rfl (by assumption) (by assumption) ?_
  refine mw_iconst (v := 5) dX7_textTold_6 (by decide) ?_
  refine mw_ialdK (k := 5) dX7_textTold_7 (by assumption) (rfl) (by decide) (by decide) ?_
  rw [e5]
  refine mw_iconst (v := 1) dX7_textTold_8 (by decide) ?_
  refine mw_isub dX7_textTold_9 ?_
  refine mw_cSI (g := fX7_in) dX7_textTold_10 ml_X7_78 mfX7_in (ok_X7_in) rfl rfl (Nat.le_of_ble_eq_true rfl) ⟨by decide, by decide⟩ ⟨by decide, by decide⟩ ?_
  refine mw_if_eqB (tgt := 25) dX7_textTold_13 (by decide) (fun h13 => ?_) (fun h13 => ?_)
  · skip
    refine mw_ldc dX7_textTold_25 cn_X7_127 ?_
    exact mw_iret dX7_textTold_27 rfl (by decide) (by decide) (by rw [mTextTold, if_neg (by grind)]; exact ⟨rfl, rfl, rfl⟩)
  · skip
    refine mw_iload_n dX7_textTold_16 rfl ?_
    refine mw_iconst (v := 0) dX7_textTold_17 (by decide) ?_
    refine mw_iconst (v := 1) dX7_textTold_18 (by decide) ?_
    refine mw_cSI (g := fX7_in) dX7_textTold_19 ml_X7_78 mfX7_in (ok_X7_in) rfl rfl (Nat.le_of_ble_eq_true rfl) ⟨by decide, by decide⟩ ⟨by decide, by decide⟩ ?_
    refine mw_if_neB (tgt := 28) dX7_textTold_22 (by decide) (fun h22 => ?_) (fun h22 => ?_)
    · skip
      obtain ⟨a, han, hv⟩ := inTx h13 hn14
      have gg := go a han hv h13 h22
      rw [← hv] at gg
      exact MW.sub (by simp [lsub]) gg
    · skip
      refine mw_ldc dX7_textTold_25 cn_X7_127 ?_
      exact mw_iret dX7_textTold_27 rfl (by decide) (by decide) (by rw [mTextTold, if_neg (by grind)]; exact ⟨rfl, rfl, rfl⟩)
