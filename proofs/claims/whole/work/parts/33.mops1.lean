/-! the model's calls: attics -/
def PM (S : Sg) (mi : Mem) (o : Nat) (q : Sp) : Pt3 := fun r S' m => r = some (.int q.1) ∧ S' = S ∧ m (o + 1) = q.2.1 ∧ FrM o mi m
theorem dX7_comes_0 : decode fX7_comes.2.1 0 = .ok (.aload_n 0, 1) := by decide +kernel
theorem dX7_comes_1 : decode fX7_comes.2.1 1 = .ok (.getfield 9, 3) := by decide +kernel
theorem dX7_comes_4 : decode fX7_comes.2.1 4 = .ok (.iconst 1, 1) := by decide +kernel
theorem dX7_comes_5 : decode fX7_comes.2.1 5 = .ok (.iaload, 1) := by decide +kernel
theorem dX7_comes_6 : decode fX7_comes.2.1 6 = .ok (.istore 4, 2) := by decide +kernel
theorem dX7_comes_8 : decode fX7_comes.2.1 8 = .ok (.aload_n 0, 1) := by decide +kernel
theorem dX7_comes_9 : decode fX7_comes.2.1 9 = .ok (.getfield 9, 3) := by decide +kernel
theorem dX7_comes_12 : decode fX7_comes.2.1 12 = .ok (.iconst 1, 1) := by decide +kernel
theorem dX7_comes_13 : decode fX7_comes.2.1 13 = .ok (.dup2, 1) := by decide +kernel
theorem dX7_comes_14 : decode fX7_comes.2.1 14 = .ok (.iaload, 1) := by decide +kernel
theorem dX7_comes_15 : decode fX7_comes.2.1 15 = .ok (.iconst 1, 1) := by decide +kernel
theorem dX7_comes_16 : decode fX7_comes.2.1 16 = .ok (.iadd, 1) := by decide +kernel
theorem dX7_comes_17 : decode fX7_comes.2.1 17 = .ok (.iastore, 1) := by decide +kernel
theorem dX7_comes_18 : decode fX7_comes.2.1 18 = .ok (.aload_n 0, 1) := by decide +kernel
theorem dX7_comes_19 : decode fX7_comes.2.1 19 = .ok (.iload 4, 2) := by decide +kernel
theorem dX7_comes_21 : decode fX7_comes.2.1 21 = .ok (.iconst 0, 1) := by decide +kernel
theorem dX7_comes_22 : decode fX7_comes.2.1 22 = .ok (.iload_n 1, 1) := by decide +kernel
theorem dX7_comes_23 : decode fX7_comes.2.1 23 = .ok (.invokevirtual 119, 3) := by decide +kernel
theorem dX7_comes_26 : decode fX7_comes.2.1 26 = .ok (.aload_n 0, 1) := by decide +kernel
theorem dX7_comes_27 : decode fX7_comes.2.1 27 = .ok (.iload 4, 2) := by decide +kernel
theorem dX7_comes_29 : decode fX7_comes.2.1 29 = .ok (.iconst 1, 1) := by decide +kernel
theorem dX7_comes_30 : decode fX7_comes.2.1 30 = .ok (.iload_n 2, 1) := by decide +kernel
theorem dX7_comes_31 : decode fX7_comes.2.1 31 = .ok (.invokevirtual 119, 3) := by decide +kernel
theorem dX7_comes_34 : decode fX7_comes.2.1 34 = .ok (.aload_n 0, 1) := by decide +kernel
theorem dX7_comes_35 : decode fX7_comes.2.1 35 = .ok (.iload 4, 2) := by decide +kernel
theorem dX7_comes_37 : decode fX7_comes.2.1 37 = .ok (.iconst 2, 1) := by decide +kernel
theorem dX7_comes_38 : decode fX7_comes.2.1 38 = .ok (.iload_n 3, 1) := by decide +kernel
theorem dX7_comes_39 : decode fX7_comes.2.1 39 = .ok (.invokevirtual 119, 3) := by decide +kernel
theorem dX7_comes_42 : decode fX7_comes.2.1 42 = .ok (.aload_n 0, 1) := by decide +kernel
theorem dX7_comes_43 : decode fX7_comes.2.1 43 = .ok (.iload 4, 2) := by decide +kernel
theorem dX7_comes_45 : decode fX7_comes.2.1 45 = .ok (.iconst 3, 1) := by decide +kernel
theorem dX7_comes_46 : decode fX7_comes.2.1 46 = .ok (.iconst 0, 1) := by decide +kernel
theorem dX7_comes_47 : decode fX7_comes.2.1 47 = .ok (.invokevirtual 119, 3) := by decide +kernel
theorem dX7_comes_50 : decode fX7_comes.2.1 50 = .ok (.aload_n 0, 1) := by decide +kernel
theorem dX7_comes_51 : decode fX7_comes.2.1 51 = .ok (.iload 4, 2) := by decide +kernel
theorem dX7_comes_53 : decode fX7_comes.2.1 53 = .ok (.iconst 4, 1) := by decide +kernel
theorem dX7_comes_54 : decode fX7_comes.2.1 54 = .ok (.iconst 0, 1) := by decide +kernel
theorem dX7_comes_55 : decode fX7_comes.2.1 55 = .ok (.invokevirtual 119, 3) := by decide +kernel
theorem dX7_comes_58 : decode fX7_comes.2.1 58 = .ok (.iload 4, 2) := by decide +kernel
theorem dX7_comes_60 : decode fX7_comes.2.1 60 = .ok (.ireturn, 1) := by decide +kernel
set_option maxRecDepth 100000 in
set_option maxHeartbeats 4000000 in
theorem ok_X7_comes {X : Xb} {S : Sg} {mi : Mem} {o n : Nat} {A : Nat → Int32} {k f w : Int32} (hM : MdA S o) (hn8 : n < 8) (hA : mi (o + 1) = A) (hn : A 1 = nI n) : Ok 1 0 0 fX7_comes X [rf X o, .int k, .int f, .int w] S mi (PM S mi o (nI n, comesF A n k f w, n + 1)) := by
  refine Ok.go [some (rf X o), some (.int k), some (.int f), some (.int w), none] (by decide) (by simp [Value.category]) (Nat.le_of_ble_eq_true rfl) rfl ?_
  obtain ⟨k_o, ⟨r_o_now, k_o_now⟩, ⟨r_o_image, k_o_image⟩, ⟨r_o_aside, k_o_aside⟩, ⟨r_o_seen, k_o_seen⟩, ⟨r_o_unlike, k_o_unlike⟩, ⟨r_o_tape, k_o_tape⟩, ⟨r_o_keys, k_o_keys⟩, ⟨r_o_keyAt, k_o_keyAt⟩, ⟨r_o_code, k_o_code⟩, ⟨r_o_waits, k_o_waits⟩, ⟨r_o_tested, k_o_tested⟩, ⟨r_o_stack, k_o_stack⟩, ⟨r_o_facts, k_o_facts⟩, ⟨r_o_sorts, k_o_sorts⟩, ⟨r_o_sizes, k_o_sizes⟩, ⟨r_o_cells, k_o_cells⟩, ⟨r_o_holds, k_o_holds⟩, ⟨r_o_holdsA, k_o_holdsA⟩, ⟨r_o_holdsB, k_o_holdsB⟩, ⟨r_o_heldCells, k_o_heldCells⟩, ⟨r_o_moved, k_o_moved⟩, ⟨r_o_tells, k_o_tells⟩⟩ := id hM
  have e1 : mi (o + 1) 1 = nI n := by rw [hA, hn]
  refine mw_aload_n dX7_comes_0 rfl ?_
  refine mw_getr dX7_comes_1 fl_X7_9 rfl (by assumption) (by assumption) ?_
  refine mw_iconst (v := 1) dX7_comes_4 (by decide) ?_
  refine mw_ialdK (k := 1) dX7_comes_5 (by assumption) (rfl) (by decide) (by decide) ?_
  rw [e1]
  refine mw_istore dX7_comes_6 (by decide) ?_
  refine mw_aload_n dX7_comes_8 rfl ?_
  refine mw_getr dX7_comes_9 fl_X7_9 rfl (by assumption) (by assumption) ?_
  refine mw_iconst (v := 1) dX7_comes_12 (by decide) ?_
  refine mw_dup2 dX7_comes_13 rfl rfl ?_
  refine mw_ialdK (k := 1) dX7_comes_14 (by assumption) (rfl) (by decide) (by decide) ?_
  rw [e1]
  refine mw_iconst (v := 1) dX7_comes_15 (by decide) ?_
  refine mw_iadd dX7_comes_16 ?_
  rw [nI_1]
  refine mw_iastK (k := 1) dX7_comes_17 (by assumption) (rfl) (by decide) (by decide) ?_
  refine mw_aload_n dX7_comes_18 rfl ?_
  refine mw_iload dX7_comes_19 rfl ?_
  refine mw_iconst (v := 0) dX7_comes_21 (by decide) ?_
  refine mw_iload_n dX7_comes_22 rfl ?_
  refine mw_cVV (g := fX7_put) dX7_comes_23 ml_X7_119 mfX7_put (ok_X7_put hM (a := n) (w := 0) hn8 (by decide)) (by assumption) rfl rfl (Nat.le_of_ble_eq_true rfl) ⟨by decide, by decide⟩ ⟨by decide, by decide⟩ ?_
  refine mw_aload_n dX7_comes_26 rfl ?_
  refine mw_iload dX7_comes_27 rfl ?_
  refine mw_iconst (v := 1) dX7_comes_29 (by decide) ?_
  refine mw_iload_n dX7_comes_30 rfl ?_
  refine mw_cVV (g := fX7_put) dX7_comes_31 ml_X7_119 mfX7_put (ok_X7_put hM (a := n) (w := 1) hn8 (by decide)) (by assumption) rfl rfl (Nat.le_of_ble_eq_true rfl) ⟨by decide, by decide⟩ ⟨by decide, by decide⟩ ?_
  refine mw_aload_n dX7_comes_34 rfl ?_
  refine mw_iload dX7_comes_35 rfl ?_
  refine mw_iconst (v := 2) dX7_comes_37 (by decide) ?_
  refine mw_iload_n dX7_comes_38 rfl ?_
  refine mw_cVV (g := fX7_put) dX7_comes_39 ml_X7_119 mfX7_put (ok_X7_put hM (a := n) (w := 2) hn8 (by decide)) (by assumption) rfl rfl (Nat.le_of_ble_eq_true rfl) ⟨by decide, by decide⟩ ⟨by decide, by decide⟩ ?_
  refine mw_aload_n dX7_comes_42 rfl ?_
  refine mw_iload dX7_comes_43 rfl ?_
  refine mw_iconst (v := 3) dX7_comes_45 (by decide) ?_
  refine mw_iconst (v := 0) dX7_comes_46 (by decide) ?_
  refine mw_cVV (g := fX7_put) dX7_comes_47 ml_X7_119 mfX7_put (ok_X7_put hM (a := n) (w := 3) hn8 (by decide)) (by assumption) rfl rfl (Nat.le_of_ble_eq_true rfl) ⟨by decide, by decide⟩ ⟨by decide, by decide⟩ ?_
  refine mw_aload_n dX7_comes_50 rfl ?_
  refine mw_iload dX7_comes_51 rfl ?_
  refine mw_iconst (v := 4) dX7_comes_53 (by decide) ?_
  refine mw_iconst (v := 0) dX7_comes_54 (by decide) ?_
  refine mw_cVV (g := fX7_put) dX7_comes_55 ml_X7_119 mfX7_put (ok_X7_put hM (a := n) (w := 4) hn8 (by decide)) (by assumption) rfl rfl (Nat.le_of_ble_eq_true rfl) ⟨by decide, by decide⟩ ⟨by decide, by decide⟩ ?_
  refine mw_iload dX7_comes_58 rfl ?_
  exact mw_iret dX7_comes_60 rfl (by decide) (by decide) (⟨rfl, rfl, by simp only [m_up_row, hA]; funext j; simp only [comesF, new5, upd]; grind, ((((((FrM.rf o mi).up).up).up).up).up).up⟩)
theorem dX7_attic_0 : decode fX7_attic.2.1 0 = .ok (.iload_n 1, 1) := by decide +kernel
theorem dX7_attic_1 : decode fX7_attic.2.1 1 = .ok (.iconst 0, 1) := by decide +kernel
theorem dX7_attic_2 : decode fX7_attic.2.1 2 = .ok (.iconst 5, 1) := by decide +kernel
theorem dX7_attic_3 : decode fX7_attic.2.1 3 = .ok (.invokestatic 78, 3) := by decide +kernel
theorem dX7_attic_6 : decode fX7_attic.2.1 6 = .ok (.ifCond .eq 20, 3) := by decide +kernel
theorem dX7_attic_9 : decode fX7_attic.2.1 9 = .ok (.iload_n 2, 1) := by decide +kernel
theorem dX7_attic_10 : decode fX7_attic.2.1 10 = .ok (.invokestatic 123, 3) := by decide +kernel
theorem dX7_attic_13 : decode fX7_attic.2.1 13 = .ok (.ifCond .eq 13, 3) := by decide +kernel
theorem dX7_attic_16 : decode fX7_attic.2.1 16 = .ok (.iload_n 3, 1) := by decide +kernel
theorem dX7_attic_17 : decode fX7_attic.2.1 17 = .ok (.iconst 1, 1) := by decide +kernel
theorem dX7_attic_18 : decode fX7_attic.2.1 18 = .ok (.bipush 12, 2) := by decide +kernel
theorem dX7_attic_20 : decode fX7_attic.2.1 20 = .ok (.invokestatic 78, 3) := by decide +kernel
theorem dX7_attic_23 : decode fX7_attic.2.1 23 = .ok (.ifCond .ne 6, 3) := by decide +kernel
theorem dX7_attic_26 : decode fX7_attic.2.1 26 = .ok (.ldc 127, 2) := by decide +kernel
theorem dX7_attic_28 : decode fX7_attic.2.1 28 = .ok (.ireturn, 1) := by decide +kernel
theorem dX7_attic_29 : decode fX7_attic.2.1 29 = .ok (.aload_n 0, 1) := by decide +kernel
theorem dX7_attic_30 : decode fX7_attic.2.1 30 = .ok (.getfield 9, 3) := by decide +kernel
theorem dX7_attic_33 : decode fX7_attic.2.1 33 = .ok (.iconst 1, 1) := by decide +kernel
theorem dX7_attic_34 : decode fX7_attic.2.1 34 = .ok (.iaload, 1) := by decide +kernel
theorem dX7_attic_35 : decode fX7_attic.2.1 35 = .ok (.bipush 8, 2) := by decide +kernel
theorem dX7_attic_37 : decode fX7_attic.2.1 37 = .ok (.if_icmp .ne 8, 3) := by decide +kernel
theorem dX7_attic_40 : decode fX7_attic.2.1 40 = .ok (.ldc 128, 2) := by decide +kernel
theorem dX7_attic_42 : decode fX7_attic.2.1 42 = .ok (.goto 10, 3) := by decide +kernel
theorem dX7_attic_45 : decode fX7_attic.2.1 45 = .ok (.aload_n 0, 1) := by decide +kernel
theorem dX7_attic_46 : decode fX7_attic.2.1 46 = .ok (.iload_n 1, 1) := by decide +kernel
theorem dX7_attic_47 : decode fX7_attic.2.1 47 = .ok (.iload_n 2, 1) := by decide +kernel
theorem dX7_attic_48 : decode fX7_attic.2.1 48 = .ok (.iload_n 3, 1) := by decide +kernel
theorem dX7_attic_49 : decode fX7_attic.2.1 49 = .ok (.invokevirtual 129, 3) := by decide +kernel
theorem dX7_attic_52 : decode fX7_attic.2.1 52 = .ok (.ireturn, 1) := by decide +kernel
set_option maxRecDepth 100000 in
set_option maxHeartbeats 4000000 in
theorem ok_X7_attic {X : Xb} {S : Sg} {mi : Mem} {o n : Nat} {A : Nat → Int32} {k f w : Int32} (hM : MdA S o) (hn8 : n ≤ 8) (hA : mi (o + 1) = A) (hn : A 1 = nI n) : Ok 2 0 0 fX7_attic X [rf X o, .int k, .int f, .int w] S mi (PM S mi o (sAttic A n k f w)) := by
  refine Ok.go [some (rf X o), some (.int k), some (.int f), some (.int w)] (by decide) (by simp [Value.category]) (Nat.le_of_ble_eq_true rfl) rfl ?_
  obtain ⟨k_o, ⟨r_o_now, k_o_now⟩, ⟨r_o_image, k_o_image⟩, ⟨r_o_aside, k_o_aside⟩, ⟨r_o_seen, k_o_seen⟩, ⟨r_o_unlike, k_o_unlike⟩, ⟨r_o_tape, k_o_tape⟩, ⟨r_o_keys, k_o_keys⟩, ⟨r_o_keyAt, k_o_keyAt⟩, ⟨r_o_code, k_o_code⟩, ⟨r_o_waits, k_o_waits⟩, ⟨r_o_tested, k_o_tested⟩, ⟨r_o_stack, k_o_stack⟩, ⟨r_o_facts, k_o_facts⟩, ⟨r_o_sorts, k_o_sorts⟩, ⟨r_o_sizes, k_o_sizes⟩, ⟨r_o_cells, k_o_cells⟩, ⟨r_o_holds, k_o_holds⟩, ⟨r_o_holdsA, k_o_holdsA⟩, ⟨r_o_holdsB, k_o_holdsB⟩, ⟨r_o_heldCells, k_o_heldCells⟩, ⟨r_o_moved, k_o_moved⟩, ⟨r_o_tells, k_o_tells⟩⟩ := id hM
  have e1 : mi (o + 1) 1 = nI n := by rw [hA, hn]
  have z := FrM.rf o mi
  have e8 : nI n = 8 ↔ n = 8 := nI_eq (b := 8) (by omega) (by decide)
  refine mw_iload_n dX7_attic_0 rfl ?_
  refine mw_iconst (v := 0) dX7_attic_1 (by decide) ?_
  refine mw_iconst (v := 5) dX7_attic_2 (by decide) ?_
  refine mw_cSI (g := fX7_in) dX7_attic_3 ml_X7_78 mfX7_in (ok_X7_in) rfl rfl (Nat.le_of_ble_eq_true rfl) ⟨by decide, by decide⟩ ⟨by decide, by decide⟩ ?_
  refine mw_if_eqB (tgt := 26) dX7_attic_6 (by decide) (fun h6 => ?_) (fun h6 => ?_)
  · skip
    refine mw_ldc dX7_attic_26 cn_X7_127 ?_
    exact mw_iret dX7_attic_28 rfl (by decide) (by decide) (by rw [sAttic, if_neg (by grind)]; exact ⟨rfl, rfl, hA, z⟩)
  · skip
    refine mw_iload_n dX7_attic_9 rfl ?_
    refine mw_cSI (g := fX7_isBearing) dX7_attic_10 ml_X7_123 mfX7_isBearing (ok_X7_isBearing) rfl rfl (Nat.le_of_ble_eq_true rfl) ⟨by decide, by decide⟩ ⟨by decide, by decide⟩ ?_
    refine mw_if_eqB (tgt := 26) dX7_attic_13 (by decide) (fun h13 => ?_) (fun h13 => ?_)
    · skip
      refine mw_ldc dX7_attic_26 cn_X7_127 ?_
      exact mw_iret dX7_attic_28 rfl (by decide) (by decide) (by rw [sAttic, if_neg (by grind)]; exact ⟨rfl, rfl, hA, z⟩)
    · skip
      refine mw_iload_n dX7_attic_16 rfl ?_
      refine mw_iconst (v := 1) dX7_attic_17 (by decide) ?_
      refine mw_bipush (v := 12) dX7_attic_18 (by decide) ?_
      refine mw_cSI (g := fX7_in) dX7_attic_20 ml_X7_78 mfX7_in (ok_X7_in) rfl rfl (Nat.le_of_ble_eq_true rfl) ⟨by decide, by decide⟩ ⟨by decide, by decide⟩ ?_
      refine mw_if_neB (tgt := 29) dX7_attic_23 (by decide) (fun h23 => ?_) (fun h23 => ?_)
      · skip
        refine mw_aload_n dX7_attic_29 rfl ?_
        refine mw_getr dX7_attic_30 fl_X7_9 rfl (by assumption) (by assumption) ?_
        refine mw_iconst (v := 1) dX7_attic_33 (by decide) ?_
        refine mw_ialdK (k := 1) dX7_attic_34 (by assumption) (rfl) (by decide) (by decide) ?_
        refine mw_bipush (v := 8) dX7_attic_35 (by decide) ?_
        rw [e1]
        refine mw_icmp_ne (tgt := 45) dX7_attic_37 (by decide) (fun h37 => ?_) (fun h37 => ?_)
        · skip
          refine mw_aload_n dX7_attic_45 rfl ?_
          refine mw_iload_n dX7_attic_46 rfl ?_
          refine mw_iload_n dX7_attic_47 rfl ?_
          refine mw_iload_n dX7_attic_48 rfl ?_
          refine mw_callV (g := fX7_comes) dX7_attic_49 ml_X7_129 mfX7_comes (ok_X7_comes (n := n) hM (by have : n ≠ 8 := fun q => h37 (e8.mpr q); omega) hA hn) (by assumption) rfl rfl (Nat.le_of_ble_eq_true rfl) ⟨by decide, by decide⟩ ⟨by decide, by decide⟩ (fun r S2 mi2 hp => ?_)
          obtain ⟨rfl, e2, e3, e4⟩ := hp
          rw [e2]
          exact mw_iret dX7_attic_52 rfl (by decide) (by decide) (by first | (rw [sAttic, if_pos ⟨h6, h13, h23⟩, if_neg (fun q => h37 (e8.mpr q))]; exact ⟨rfl, rfl, e3, e4⟩) | (rw [sAttic, if_pos ⟨h6, h13, h23⟩, if_pos (e8.mp h37)]; exact ⟨rfl, rfl, hA, z⟩))
        · skip
          refine mw_ldc dX7_attic_40 cn_X7_128 ?_
          refine mw_goto (tgt := 52) dX7_attic_42 (by decide) ?_
          exact mw_iret dX7_attic_52 rfl (by decide) (by decide) (by first | (rw [sAttic, if_pos ⟨h6, h13, h23⟩, if_neg (fun q => h37 (e8.mpr q))]; exact ⟨rfl, rfl, e3, e4⟩) | (rw [sAttic, if_pos ⟨h6, h13, h23⟩, if_pos (e8.mp h37)]; exact ⟨rfl, rfl, hA, z⟩))
      · skip
        refine mw_ldc dX7_attic_26 cn_X7_127 ?_
        exact mw_iret dX7_attic_28 rfl (by decide) (by decide) (by rw [sAttic, if_neg (by grind)]; exact ⟨rfl, rfl, hA, z⟩)
def mTold (lw : LawT) (A : Nat → Int32) (n : Nat) (v w : Int32) : Int32 := if 0 ≤ v ∧ v ≤ nI n - 1 then (if w = 0 then A (26 + 5 * v.toNatClampNeg) else if w = 1 then A (26 + 5 * v.toNatClampNeg + 1) else if w = 2 then A (26 + 5 * v.toNatClampNeg + 2) else if w = 3 then A (26 + 5 * v.toNatClampNeg + 3) else if w = 4 then A (26 + 5 * v.toNatClampNeg + 4) else if w = 5 then mWide (A 2) (A (26 + 5 * v.toNatClampNeg)) (A (26 + 5 * v.toNatClampNeg + 2)) else if w = 6 then rSees A v.toNatClampNeg else if w = 7 then mRent lw A v.toNatClampNeg else BADi) else BADi
theorem mTold_f {lw : LawT} {A : Nat → Int32} {n a q : Nat} (h : 0 ≤ nI a ∧ nI a ≤ nI n - 1) (ha : a < 8) (hq : q < 5) : mTold lw A n (nI a) (nI q) = A (26 + 5 * a + q) := by
  have ecl : (nI a).toNatClampNeg = a := nI_clamp (by omega)
  rw [mTold, if_pos h, ecl]
  have : q = 0 ∨ q = 1 ∨ q = 2 ∨ q = 3 ∨ q = 4 := by omega
  rcases this with rfl | rfl | rfl | rfl | rfl <;> rfl
theorem mTold_bad {lw : LawT} {A : Nat → Int32} {n : Nat} {v w : Int32} (h : ¬ (0 ≤ w ∧ w ≤ 7)) : mTold lw A n v w = BADi := by
  have w0 : ¬ w = 0 := fun e => h (by subst e; decide)
  have w1 : ¬ w = 1 := fun e => h (by subst e; decide)
  have w2 : ¬ w = 2 := fun e => h (by subst e; decide)
  have w3 : ¬ w = 3 := fun e => h (by subst e; decide)
  have w4 : ¬ w = 4 := fun e => h (by subst e; decide)
  have w5 : ¬ w = 5 := fun e => h (by subst e; decide)
  have w6 : ¬ w = 6 := fun e => h (by subst e; decide)
  have w7 : ¬ w = 7 := fun e => h (by subst e; decide)
  simp only [mTold, w0, w1, w2, w3, w4, w5, w6, w7, if_false, ite_self]
theorem dX7_told_0 : decode fX7_told.2.1 0 = .ok (.aload_n 0, 1) := by decide +kernel
theorem dX7_told_1 : decode fX7_told.2.1 1 = .ok (.iload_n 1, 1) := by decide +kernel
theorem dX7_told_2 : decode fX7_told.2.1 2 = .ok (.invokevirtual 132, 3) := by decide +kernel
theorem dX7_told_5 : decode fX7_told.2.1 5 = .ok (.ifCond .eq 13, 3) := by decide +kernel
theorem dX7_told_8 : decode fX7_told.2.1 8 = .ok (.iload_n 2, 1) := by decide +kernel
theorem dX7_told_9 : decode fX7_told.2.1 9 = .ok (.iconst 0, 1) := by decide +kernel
theorem dX7_told_10 : decode fX7_told.2.1 10 = .ok (.bipush 7, 2) := by decide +kernel
theorem dX7_told_12 : decode fX7_told.2.1 12 = .ok (.invokestatic 78, 3) := by decide +kernel
theorem dX7_told_15 : decode fX7_told.2.1 15 = .ok (.ifCond .ne 6, 3) := by decide +kernel
theorem dX7_told_18 : decode fX7_told.2.1 18 = .ok (.ldc 127, 2) := by decide +kernel
theorem dX7_told_20 : decode fX7_told.2.1 20 = .ok (.ireturn, 1) := by decide +kernel
theorem dX7_told_21 : decode fX7_told.2.1 21 = .ok (.iload_n 2, 1) := by decide +kernel
theorem dX7_told_22 : decode fX7_told.2.1 22 = .ok (.iconst 5, 1) := by decide +kernel
theorem dX7_told_23 : decode fX7_told.2.1 23 = .ok (.if_icmp .ge 10, 3) := by decide +kernel
theorem dX7_told_26 : decode fX7_told.2.1 26 = .ok (.aload_n 0, 1) := by decide +kernel
theorem dX7_told_27 : decode fX7_told.2.1 27 = .ok (.iload_n 1, 1) := by decide +kernel
theorem dX7_told_28 : decode fX7_told.2.1 28 = .ok (.iload_n 2, 1) := by decide +kernel
theorem dX7_told_29 : decode fX7_told.2.1 29 = .ok (.invokevirtual 86, 3) := by decide +kernel
theorem dX7_told_32 : decode fX7_told.2.1 32 = .ok (.ireturn, 1) := by decide +kernel
theorem dX7_told_33 : decode fX7_told.2.1 33 = .ok (.iload_n 2, 1) := by decide +kernel
theorem dX7_told_34 : decode fX7_told.2.1 34 = .ok (.iconst 5, 1) := by decide +kernel
theorem dX7_told_35 : decode fX7_told.2.1 35 = .ok (.if_icmp .ne 11, 3) := by decide +kernel
theorem dX7_told_38 : decode fX7_told.2.1 38 = .ok (.aload_n 0, 1) := by decide +kernel
theorem dX7_told_39 : decode fX7_told.2.1 39 = .ok (.iload_n 1, 1) := by decide +kernel
theorem dX7_told_40 : decode fX7_told.2.1 40 = .ok (.invokevirtual 93, 3) := by decide +kernel
theorem dX7_told_43 : decode fX7_told.2.1 43 = .ok (.goto 22, 3) := by decide +kernel
theorem dX7_told_46 : decode fX7_told.2.1 46 = .ok (.iload_n 2, 1) := by decide +kernel
theorem dX7_told_47 : decode fX7_told.2.1 47 = .ok (.bipush 6, 2) := by decide +kernel
theorem dX7_told_49 : decode fX7_told.2.1 49 = .ok (.if_icmp .ne 11, 3) := by decide +kernel
theorem dX7_told_52 : decode fX7_told.2.1 52 = .ok (.aload_n 0, 1) := by decide +kernel
theorem dX7_told_53 : decode fX7_told.2.1 53 = .ok (.iload_n 1, 1) := by decide +kernel
theorem dX7_told_54 : decode fX7_told.2.1 54 = .ok (.invokevirtual 104, 3) := by decide +kernel
theorem dX7_told_57 : decode fX7_told.2.1 57 = .ok (.goto 8, 3) := by decide +kernel
theorem dX7_told_60 : decode fX7_told.2.1 60 = .ok (.aload_n 0, 1) := by decide +kernel
theorem dX7_told_61 : decode fX7_told.2.1 61 = .ok (.iload_n 1, 1) := by decide +kernel
theorem dX7_told_62 : decode fX7_told.2.1 62 = .ok (.invokevirtual 135, 3) := by decide +kernel
theorem dX7_told_65 : decode fX7_told.2.1 65 = .ok (.ireturn, 1) := by decide +kernel
set_option maxRecDepth 100000 in
set_option maxHeartbeats 4000000 in
theorem ok_X7_told {X : Xb} {S : Sg} {mi : Mem} {o n t : Nat} {A : Nat → Int32} {lw : LawT} {v w : Int32} (hM : MdA S o) (hn8 : n ≤ 8) (hA : mi (o + 1) = A) (hn : A 1 = nI n) (ht : A 5 = nI t) (ht14 : t ≤ 14) (hx : MtOk A t) (hl : lwM A 0 t = lw) : Ok 5 0 0 fX7_told X [rf X o, .int v, .int w] S mi (PM S mi o (mTold lw A n v w, A, n)) := by
  refine Ok.go [some (rf X o), some (.int v), some (.int w)] (by decide) (by simp [Value.category]) (Nat.le_of_ble_eq_true rfl) rfl ?_
  obtain ⟨k_o, ⟨r_o_now, k_o_now⟩, ⟨r_o_image, k_o_image⟩, ⟨r_o_aside, k_o_aside⟩, ⟨r_o_seen, k_o_seen⟩, ⟨r_o_unlike, k_o_unlike⟩, ⟨r_o_tape, k_o_tape⟩, ⟨r_o_keys, k_o_keys⟩, ⟨r_o_keyAt, k_o_keyAt⟩, ⟨r_o_code, k_o_code⟩, ⟨r_o_waits, k_o_waits⟩, ⟨r_o_tested, k_o_tested⟩, ⟨r_o_stack, k_o_stack⟩, ⟨r_o_facts, k_o_facts⟩, ⟨r_o_sorts, k_o_sorts⟩, ⟨r_o_sizes, k_o_sizes⟩, ⟨r_o_cells, k_o_cells⟩, ⟨r_o_holds, k_o_holds⟩, ⟨r_o_holdsA, k_o_holdsA⟩, ⟨r_o_holdsB, k_o_holdsB⟩, ⟨r_o_heldCells, k_o_heldCells⟩, ⟨r_o_moved, k_o_moved⟩, ⟨r_o_tells, k_o_tells⟩⟩ := id hM
  subst hA
  have z := FrM.rf o mi
  refine mw_aload_n dX7_told_0 rfl ?_
  refine mw_iload_n dX7_told_1 rfl ?_
  refine mw_cVI (g := fX7_isAttic) dX7_told_2 ml_X7_132 mfX7_isAttic (ok_X7_isAttic hM) (by assumption) rfl rfl (Nat.le_of_ble_eq_true rfl) ⟨by decide, by decide⟩ ⟨by decide, by decide⟩ ?_
  rw [hn]
  refine mw_if_eqB (tgt := 18) dX7_told_5 (by decide) (fun h5 => ?_) (fun h5 => ?_)
  · skip
    refine mw_ldc dX7_told_18 cn_X7_127 ?_
    exact mw_iret dX7_told_20 rfl (by decide) (by decide) (by first | exact ⟨by rw [mTold, if_neg h5], rfl, rfl, z⟩ | exact ⟨by rw [mTold_bad h15], rfl, rfl, z⟩)
  · skip
    refine mw_iload_n dX7_told_8 rfl ?_
    refine mw_iconst (v := 0) dX7_told_9 (by decide) ?_
    refine mw_bipush (v := 7) dX7_told_10 (by decide) ?_
    refine mw_cSI (g := fX7_in) dX7_told_12 ml_X7_78 mfX7_in (ok_X7_in) rfl rfl (Nat.le_of_ble_eq_true rfl) ⟨by decide, by decide⟩ ⟨by decide, by decide⟩ ?_
    refine mw_if_neB (tgt := 21) dX7_told_15 (by decide) (fun h15 => ?_) (fun h15 => ?_)
    · skip
      obtain ⟨a, han, rfl⟩ := inAt h5 hn8
      obtain ⟨q, hq, rfl⟩ := in7 h15
      have ecl : (nI a).toNatClampNeg = a := nI_clamp (by omega)
      refine mw_iload_n dX7_told_21 rfl ?_
      refine mw_iconst (v := 5) dX7_told_22 (by decide) ?_
      refine mw_icmp_ge (tgt := 33) dX7_told_23 (by decide) (fun h23 => ?_) (fun h23 => ?_)
      · skip
        refine mw_iload_n dX7_told_33 rfl ?_
        refine mw_iconst (v := 5) dX7_told_34 (by decide) ?_
        refine mw_icmp_ne (tgt := 46) dX7_told_35 (by decide) (fun h35 => ?_) (fun h35 => ?_)
        · skip
          refine mw_iload_n dX7_told_46 rfl ?_
          refine mw_bipush (v := 6) dX7_told_47 (by decide) ?_
          refine mw_icmp_ne (tgt := 60) dX7_told_49 (by decide) (fun h49 => ?_) (fun h49 => ?_)
          · skip
            refine mw_aload_n dX7_told_60 rfl ?_
            refine mw_iload_n dX7_told_61 rfl ?_
            refine mw_callV (g := fX7_rentOf) dX7_told_62 ml_X7_135 mfX7_rentOf (ok_X7_rentOf hM (by omega) ht ht14 hx) (by assumption) rfl rfl (Nat.le_of_ble_eq_true rfl) ⟨by decide, by decide⟩ ⟨by decide, by decide⟩ (fun r S2 mi2 hp => ?_)
            obtain ⟨rfl, e1, hs⟩ := hp
            rw [e1, hl]
            have q7 : q = 7 := by
              have c5 : ¬ q < 5 := fun c => absurd h23 (nI_ge (b := 5) c (by decide))
              have c6 : q ≠ 5 := fun c => h35 (by rw [c]; rfl)
              have c7 : q ≠ 6 := fun c => h49 (by rw [c]; rfl)
              omega
            exact mw_iret dX7_told_65 rfl (by decide) (by decide) (by first | exact ⟨by rw [mTold, if_pos h5, ecl, q7]; rfl, rfl, hs _ (by omega) (by omega), FrM.scr hs⟩ | exact ⟨by rw [mTold, if_pos h5, ecl, h35]; rfl, rfl, rfl, z⟩ | exact ⟨by rw [mTold, if_pos h5, ecl, h49]; rfl, rfl, rfl, z⟩)
          · skip
            refine mw_aload_n dX7_told_52 rfl ?_
            refine mw_iload_n dX7_told_53 rfl ?_
            refine mw_cVI (g := fX7_sees) dX7_told_54 ml_X7_104 mfX7_sees (ok_X7_sees hM (by omega)) (by assumption) rfl rfl (Nat.le_of_ble_eq_true rfl) ⟨by decide, by decide⟩ ⟨by decide, by decide⟩ ?_
            refine mw_goto (tgt := 65) dX7_told_57 (by decide) ?_
            exact mw_iret dX7_told_65 rfl (by decide) (by decide) (by first | exact ⟨by rw [mTold, if_pos h5, ecl, q7]; rfl, rfl, hs _ (by omega) (by omega), FrM.scr hs⟩ | exact ⟨by rw [mTold, if_pos h5, ecl, h35]; rfl, rfl, rfl, z⟩ | exact ⟨by rw [mTold, if_pos h5, ecl, h49]; rfl, rfl, rfl, z⟩)
        · skip
          refine mw_aload_n dX7_told_38 rfl ?_
          refine mw_iload_n dX7_told_39 rfl ?_
          refine mw_cVI (g := fX7_wideOf) dX7_told_40 ml_X7_93 mfX7_wideOf (ok_X7_wideOf hM (by omega)) (by assumption) rfl rfl (Nat.le_of_ble_eq_true rfl) ⟨by decide, by decide⟩ ⟨by decide, by decide⟩ ?_
          refine mw_goto (tgt := 65) dX7_told_43 (by decide) ?_
          exact mw_iret dX7_told_65 rfl (by decide) (by decide) (by first | exact ⟨by rw [mTold, if_pos h5, ecl, q7]; rfl, rfl, hs _ (by omega) (by omega), FrM.scr hs⟩ | exact ⟨by rw [mTold, if_pos h5, ecl, h35]; rfl, rfl, rfl, z⟩ | exact ⟨by rw [mTold, if_pos h5, ecl, h49]; rfl, rfl, rfl, z⟩)
      · skip
        have hq5 : q < 5 := (nI_ltI (b := 5) (by omega) (by decide)).mp (Int32.not_le.mp h23)
        refine mw_aload_n dX7_told_26 rfl ?_
        refine mw_iload_n dX7_told_27 rfl ?_
        refine mw_iload_n dX7_told_28 rfl ?_
        refine mw_cVI (g := fX7_of) dX7_told_29 ml_X7_86 mfX7_of (ok_X7_of hM (a := a) (w := q) (by omega) hq5) (by assumption) rfl rfl (Nat.le_of_ble_eq_true rfl) ⟨by decide, by decide⟩ ⟨by decide, by decide⟩ ?_
        exact mw_iret dX7_told_32 rfl (by decide) (by decide) (⟨by rw [mTold_f h5 (by omega) hq5], rfl, rfl, z⟩)
    · skip
      refine mw_ldc dX7_told_18 cn_X7_127 ?_
      exact mw_iret dX7_told_20 rfl (by decide) (by decide) (by first | exact ⟨by rw [mTold, if_neg h5], rfl, rfl, z⟩ | exact ⟨by rw [mTold_bad h15], rfl, rfl, z⟩)
theorem dX7_isUnder_0 : decode fX7_isUnder.2.1 0 = .ok (.iload_n 1, 1) := by decide +kernel
theorem dX7_isUnder_1 : decode fX7_isUnder.2.1 1 = .ok (.ifCond .eq 28, 3) := by decide +kernel
theorem dX7_isUnder_4 : decode fX7_isUnder.2.1 4 = .ok (.iload_n 0, 1) := by decide +kernel
theorem dX7_isUnder_5 : decode fX7_isUnder.2.1 5 = .ok (.iload_n 1, 1) := by decide +kernel
theorem dX7_isUnder_6 : decode fX7_isUnder.2.1 6 = .ok (.if_icmp .eq 23, 3) := by decide +kernel
theorem dX7_isUnder_9 : decode fX7_isUnder.2.1 9 = .ok (.iload_n 1, 1) := by decide +kernel
theorem dX7_isUnder_10 : decode fX7_isUnder.2.1 10 = .ok (.iconst 1, 1) := by decide +kernel
theorem dX7_isUnder_11 : decode fX7_isUnder.2.1 11 = .ok (.if_icmp .ne 8, 3) := by decide +kernel
theorem dX7_isUnder_14 : decode fX7_isUnder.2.1 14 = .ok (.iload_n 0, 1) := by decide +kernel
theorem dX7_isUnder_15 : decode fX7_isUnder.2.1 15 = .ok (.iconst 3, 1) := by decide +kernel
theorem dX7_isUnder_16 : decode fX7_isUnder.2.1 16 = .ok (.if_icmp .eq 13, 3) := by decide +kernel
theorem dX7_isUnder_19 : decode fX7_isUnder.2.1 19 = .ok (.iload_n 1, 1) := by decide +kernel
theorem dX7_isUnder_20 : decode fX7_isUnder.2.1 20 = .ok (.iconst 2, 1) := by decide +kernel
theorem dX7_isUnder_21 : decode fX7_isUnder.2.1 21 = .ok (.if_icmp .ne 12, 3) := by decide +kernel
theorem dX7_isUnder_24 : decode fX7_isUnder.2.1 24 = .ok (.iload_n 0, 1) := by decide +kernel
theorem dX7_isUnder_25 : decode fX7_isUnder.2.1 25 = .ok (.iconst 4, 1) := by decide +kernel
theorem dX7_isUnder_26 : decode fX7_isUnder.2.1 26 = .ok (.if_icmp .ne 7, 3) := by decide +kernel
theorem dX7_isUnder_29 : decode fX7_isUnder.2.1 29 = .ok (.iconst 1, 1) := by decide +kernel
theorem dX7_isUnder_30 : decode fX7_isUnder.2.1 30 = .ok (.goto 4, 3) := by decide +kernel
theorem dX7_isUnder_33 : decode fX7_isUnder.2.1 33 = .ok (.iconst 0, 1) := by decide +kernel
theorem dX7_isUnder_34 : decode fX7_isUnder.2.1 34 = .ok (.ireturn, 1) := by decide +kernel
set_option maxRecDepth 100000 in
set_option maxHeartbeats 4000000 in
theorem ok_X7_isUnder {X : Xb} {S : Sg} {mi : Mem} {k o : Int32} : OkI 0 fX7_isUnder X [.int k, .int o] S mi (b2i (isoB k o = true)) mi := by
  refine Ok.go [some (.int k), some (.int o)] (by decide) (by simp [Value.category]) (Nat.le_of_ble_eq_true rfl) rfl ?_
  refine mw_iload_n dX7_isUnder_0 rfl ?_
  refine mw_if_eq (tgt := 29) dX7_isUnder_1 (by decide) (fun h1 => ?_) (fun h1 => ?_)
  · skip
    refine mw_iconst (v := 1) dX7_isUnder_29 (by decide) ?_
    refine mw_goto (tgt := 34) dX7_isUnder_30 (by decide) ?_
    exact mw_bret dX7_isUnder_34 rfl (by first | exact Or.inl rfl | exact Or.inr rfl | exact b2i_01) (by decide) (by decide) (⟨by grind [b2i, isoB], rfl, rfl⟩)
  · skip
    refine mw_iload_n dX7_isUnder_4 rfl ?_
    refine mw_iload_n dX7_isUnder_5 rfl ?_
    refine mw_icmp_eq (tgt := 29) dX7_isUnder_6 (by decide) (fun h6 => ?_) (fun h6 => ?_)
    · skip
      refine mw_iconst (v := 1) dX7_isUnder_29 (by decide) ?_
      refine mw_goto (tgt := 34) dX7_isUnder_30 (by decide) ?_
      exact mw_bret dX7_isUnder_34 rfl (by first | exact Or.inl rfl | exact Or.inr rfl | exact b2i_01) (by decide) (by decide) (⟨by grind [b2i, isoB], rfl, rfl⟩)
    · skip
      refine mw_iload_n dX7_isUnder_9 rfl ?_
      refine mw_iconst (v := 1) dX7_isUnder_10 (by decide) ?_
      refine mw_icmp_ne (tgt := 19) dX7_isUnder_11 (by decide) (fun h11 => ?_) (fun h11 => ?_)
      · skip
        refine mw_iload_n dX7_isUnder_19 rfl ?_
        refine mw_iconst (v := 2) dX7_isUnder_20 (by decide) ?_
        refine mw_icmp_ne (tgt := 33) dX7_isUnder_21 (by decide) (fun h21 => ?_) (fun h21 => ?_)
        · skip
          refine mw_iconst (v := 0) dX7_isUnder_33 (by decide) ?_
          exact mw_bret dX7_isUnder_34 rfl (by first | exact Or.inl rfl | exact Or.inr rfl | exact b2i_01) (by decide) (by decide) (⟨by grind [b2i, isoB], rfl, rfl⟩)
        · skip
          refine mw_iload_n dX7_isUnder_24 rfl ?_
          refine mw_iconst (v := 4) dX7_isUnder_25 (by decide) ?_
          refine mw_icmp_ne (tgt := 33) dX7_isUnder_26 (by decide) (fun h26 => ?_) (fun h26 => ?_)
          · skip
            refine mw_iconst (v := 0) dX7_isUnder_33 (by decide) ?_
            exact mw_bret dX7_isUnder_34 rfl (by first | exact Or.inl rfl | exact Or.inr rfl | exact b2i_01) (by decide) (by decide) (⟨by grind [b2i, isoB], rfl, rfl⟩)
          · skip
            refine mw_iconst (v := 1) dX7_isUnder_29 (by decide) ?_
            refine mw_goto (tgt := 34) dX7_isUnder_30 (by decide) ?_
            exact mw_bret dX7_isUnder_34 rfl (by first | exact Or.inl rfl | exact Or.inr rfl | exact b2i_01) (by decide) (by decide) (⟨by grind [b2i, isoB], rfl, rfl⟩)
      · skip
        refine mw_iload_n dX7_isUnder_14 rfl ?_
        refine mw_iconst (v := 3) dX7_isUnder_15 (by decide) ?_
        refine mw_icmp_eq (tgt := 29) dX7_isUnder_16 (by decide) (fun h16 => ?_) (fun h16 => ?_)
        · skip
          refine mw_iconst (v := 1) dX7_isUnder_29 (by decide) ?_
          refine mw_goto (tgt := 34) dX7_isUnder_30 (by decide) ?_
          exact mw_bret dX7_isUnder_34 rfl (by first | exact Or.inl rfl | exact Or.inr rfl | exact b2i_01) (by decide) (by decide) (⟨by grind [b2i, isoB], rfl, rfl⟩)
        · skip
          refine mw_iload_n dX7_isUnder_19 rfl ?_
          refine mw_iconst (v := 2) dX7_isUnder_20 (by decide) ?_
          refine mw_icmp_ne (tgt := 33) dX7_isUnder_21 (by decide) (fun h21 => ?_) (fun h21 => ?_)
          · skip
            refine mw_iconst (v := 0) dX7_isUnder_33 (by decide) ?_
            exact mw_bret dX7_isUnder_34 rfl (by first | exact Or.inl rfl | exact Or.inr rfl | exact b2i_01) (by decide) (by decide) (⟨by grind [b2i, isoB], rfl, rfl⟩)
          · skip
            refine mw_iload_n dX7_isUnder_24 rfl ?_
            refine mw_iconst (v := 4) dX7_isUnder_25 (by decide) ?_
            refine mw_icmp_ne (tgt := 33) dX7_isUnder_26 (by decide) (fun h26 => ?_) (fun h26 => ?_)
            · skip
              refine mw_iconst (v := 0) dX7_isUnder_33 (by decide) ?_
              exact mw_bret dX7_isUnder_34 rfl (by first | exact Or.inl rfl | exact Or.inr rfl | exact b2i_01) (by decide) (by decide) (⟨by grind [b2i, isoB], rfl, rfl⟩)
            · skip
              refine mw_iconst (v := 1) dX7_isUnder_29 (by decide) ?_
              refine mw_goto (tgt := 34) dX7_isUnder_30 (by decide) ?_
              exact mw_bret dX7_isUnder_34 rfl (by first | exact Or.inl rfl | exact Or.inr rfl | exact b2i_01) (by decide) (by decide) (⟨by grind [b2i, isoB], rfl, rfl⟩)
theorem dX7_as_0 : decode fX7_as.2.1 0 = .ok (.aload_n 0, 1) := by decide +kernel
theorem dX7_as_1 : decode fX7_as.2.1 1 = .ok (.iload_n 1, 1) := by decide +kernel
theorem dX7_as_2 : decode fX7_as.2.1 2 = .ok (.invokevirtual 132, 3) := by decide +kernel
theorem dX7_as_5 : decode fX7_as.2.1 5 = .ok (.ifCond .eq 12, 3) := by decide +kernel
theorem dX7_as_8 : decode fX7_as.2.1 8 = .ok (.iload_n 2, 1) := by decide +kernel
theorem dX7_as_9 : decode fX7_as.2.1 9 = .ok (.iconst 0, 1) := by decide +kernel
theorem dX7_as_10 : decode fX7_as.2.1 10 = .ok (.iconst 5, 1) := by decide +kernel
theorem dX7_as_11 : decode fX7_as.2.1 11 = .ok (.invokestatic 78, 3) := by decide +kernel
theorem dX7_as_14 : decode fX7_as.2.1 14 = .ok (.ifCond .ne 6, 3) := by decide +kernel
theorem dX7_as_17 : decode fX7_as.2.1 17 = .ok (.ldc 127, 2) := by decide +kernel
theorem dX7_as_19 : decode fX7_as.2.1 19 = .ok (.ireturn, 1) := by decide +kernel
theorem dX7_as_20 : decode fX7_as.2.1 20 = .ok (.aload_n 0, 1) := by decide +kernel
theorem dX7_as_21 : decode fX7_as.2.1 21 = .ok (.iload_n 1, 1) := by decide +kernel
theorem dX7_as_22 : decode fX7_as.2.1 22 = .ok (.iconst 0, 1) := by decide +kernel
theorem dX7_as_23 : decode fX7_as.2.1 23 = .ok (.invokevirtual 86, 3) := by decide +kernel
theorem dX7_as_26 : decode fX7_as.2.1 26 = .ok (.iload_n 2, 1) := by decide +kernel
theorem dX7_as_27 : decode fX7_as.2.1 27 = .ok (.invokestatic 138, 3) := by decide +kernel
theorem dX7_as_30 : decode fX7_as.2.1 30 = .ok (.ifCond .eq 12, 3) := by decide +kernel
theorem dX7_as_33 : decode fX7_as.2.1 33 = .ok (.aload_n 0, 1) := by decide +kernel
theorem dX7_as_34 : decode fX7_as.2.1 34 = .ok (.iload_n 1, 1) := by decide +kernel
theorem dX7_as_35 : decode fX7_as.2.1 35 = .ok (.iconst 3, 1) := by decide +kernel
theorem dX7_as_36 : decode fX7_as.2.1 36 = .ok (.invokevirtual 86, 3) := by decide +kernel
theorem dX7_as_39 : decode fX7_as.2.1 39 = .ok (.goto 5, 3) := by decide +kernel
theorem dX7_as_42 : decode fX7_as.2.1 42 = .ok (.ldc 141, 2) := by decide +kernel
theorem dX7_as_44 : decode fX7_as.2.1 44 = .ok (.ireturn, 1) := by decide +kernel
set_option maxRecDepth 100000 in
set_option maxHeartbeats 4000000 in
theorem ok_X7_as {X : Xb} {S : Sg} {mi : Mem} {o n : Nat} {A : Nat → Int32} {v k : Int32} (hM : MdA S o) (hn8 : n ≤ 8) (hA : mi (o + 1) = A) (hn : A 1 = nI n) : Ok 2 0 0 fX7_as X [rf X o, .int v, .int k] S mi (PM S mi o (sAs A n v k, A, n)) := by
  refine Ok.go [some (rf X o), some (.int v), some (.int k)] (by decide) (by simp [Value.category]) (Nat.le_of_ble_eq_true rfl) rfl ?_
  obtain ⟨k_o, ⟨r_o_now, k_o_now⟩, ⟨r_o_image, k_o_image⟩, ⟨r_o_aside, k_o_aside⟩, ⟨r_o_seen, k_o_seen⟩, ⟨r_o_unlike, k_o_unlike⟩, ⟨r_o_tape, k_o_tape⟩, ⟨r_o_keys, k_o_keys⟩, ⟨r_o_keyAt, k_o_keyAt⟩, ⟨r_o_code, k_o_code⟩, ⟨r_o_waits, k_o_waits⟩, ⟨r_o_tested, k_o_tested⟩, ⟨r_o_stack, k_o_stack⟩, ⟨r_o_facts, k_o_facts⟩, ⟨r_o_sorts, k_o_sorts⟩, ⟨r_o_sizes, k_o_sizes⟩, ⟨r_o_cells, k_o_cells⟩, ⟨r_o_holds, k_o_holds⟩, ⟨r_o_holdsA, k_o_holdsA⟩, ⟨r_o_holdsB, k_o_holdsB⟩, ⟨r_o_heldCells, k_o_heldCells⟩, ⟨r_o_moved, k_o_moved⟩, ⟨r_o_tells, k_o_tells⟩⟩ := id hM
  subst hA
  have z := FrM.rf o mi
  refine mw_aload_n dX7_as_0 rfl ?_
  refine mw_iload_n dX7_as_1 rfl ?_
  refine mw_cVI (g := fX7_isAttic) dX7_as_2 ml_X7_132 mfX7_isAttic (ok_X7_isAttic hM) (by assumption) rfl rfl (Nat.le_of_ble_eq_true rfl) ⟨by decide, by decide⟩ ⟨by decide, by decide⟩ ?_
  rw [hn]
  refine mw_if_eqB (tgt := 17) dX7_as_5 (by decide) (fun h5 => ?_) (fun h5 => ?_)
  · skip
    refine mw_ldc dX7_as_17 cn_X7_127 ?_
    exact mw_iret dX7_as_19 rfl (by decide) (by decide) (by rw [sAs, if_neg (by grind)]; exact ⟨rfl, rfl, rfl, z⟩)
  · skip
    refine mw_iload_n dX7_as_8 rfl ?_
    refine mw_iconst (v := 0) dX7_as_9 (by decide) ?_
    refine mw_iconst (v := 5) dX7_as_10 (by decide) ?_
    refine mw_cSI (g := fX7_in) dX7_as_11 ml_X7_78 mfX7_in (ok_X7_in) rfl rfl (Nat.le_of_ble_eq_true rfl) ⟨by decide, by decide⟩ ⟨by decide, by decide⟩ ?_
    refine mw_if_neB (tgt := 20) dX7_as_14 (by decide) (fun h14 => ?_) (fun h14 => ?_)
    · skip
      obtain ⟨a, han, rfl⟩ := inAt h5 hn8
      have ecl : (nI a).toNatClampNeg = a := nI_clamp (by omega)
      refine mw_aload_n dX7_as_20 rfl ?_
      refine mw_iload_n dX7_as_21 rfl ?_
      refine mw_iconst (v := 0) dX7_as_22 (by decide) ?_
      refine mw_cVI (g := fX7_of) dX7_as_23 ml_X7_86 mfX7_of (ok_X7_of hM (a := a) (w := 0) (by omega) (by decide)) (by assumption) rfl rfl (Nat.le_of_ble_eq_true rfl) ⟨by decide, by decide⟩ ⟨by decide, by decide⟩ ?_
      refine mw_iload_n dX7_as_26 rfl ?_
      refine mw_cSI (g := fX7_isUnder) dX7_as_27 ml_X7_138 mfX7_isUnder (ok_X7_isUnder) rfl rfl (Nat.le_of_ble_eq_true rfl) ⟨by decide, by decide⟩ ⟨by decide, by decide⟩ ?_
      refine mw_if_eqB (tgt := 42) dX7_as_30 (by decide) (fun h30 => ?_) (fun h30 => ?_)
      · skip
        refine mw_ldc dX7_as_42 cn_X7_141 ?_
        exact mw_iret dX7_as_44 rfl (by decide) (by decide) (by first | exact ⟨by rw [sAs, if_pos (And.intro h5 h14), ecl, if_pos (show isoB (mi (o + 1) (26 + 5 * a)) k = true from h30)], rfl, rfl, z⟩ | exact ⟨by rw [sAs, if_pos (And.intro h5 h14), ecl, if_neg (show ¬ isoB (mi (o + 1) (26 + 5 * a)) k = true from h30)], rfl, rfl, z⟩)
      · skip
        refine mw_aload_n dX7_as_33 rfl ?_
        refine mw_iload_n dX7_as_34 rfl ?_
        refine mw_iconst (v := 3) dX7_as_35 (by decide) ?_
        refine mw_cVI (g := fX7_of) dX7_as_36 ml_X7_86 mfX7_of (ok_X7_of hM (a := a) (w := 3) (by omega) (by decide)) (by assumption) rfl rfl (Nat.le_of_ble_eq_true rfl) ⟨by decide, by decide⟩ ⟨by decide, by decide⟩ ?_
        refine mw_goto (tgt := 44) dX7_as_39 (by decide) ?_
        exact mw_iret dX7_as_44 rfl (by decide) (by decide) (by first | exact ⟨by rw [sAs, if_pos (And.intro h5 h14), ecl, if_pos (show isoB (mi (o + 1) (26 + 5 * a)) k = true from h30)], rfl, rfl, z⟩ | exact ⟨by rw [sAs, if_pos (And.intro h5 h14), ecl, if_neg (show ¬ isoB (mi (o + 1) (26 + 5 * a)) k = true from h30)], rfl, rfl, z⟩)
    · skip
      refine mw_ldc dX7_as_17 cn_X7_127 ?_
      exact mw_iret dX7_as_19 rfl (by decide) (by decide) (by rw [sAs, if_neg (by grind)]; exact ⟨rfl, rfl, rfl, z⟩)
theorem dX7_turns_0 : decode fX7_turns.2.1 0 = .ok (.aload_n 0, 1) := by decide +kernel
theorem dX7_turns_1 : decode fX7_turns.2.1 1 = .ok (.iload_n 1, 1) := by decide +kernel
theorem dX7_turns_2 : decode fX7_turns.2.1 2 = .ok (.invokevirtual 132, 3) := by decide +kernel
theorem dX7_turns_5 : decode fX7_turns.2.1 5 = .ok (.ifCond .eq 26, 3) := by decide +kernel
theorem dX7_turns_8 : decode fX7_turns.2.1 8 = .ok (.iload_n 2, 1) := by decide +kernel
theorem dX7_turns_9 : decode fX7_turns.2.1 9 = .ok (.iconst 0, 1) := by decide +kernel
theorem dX7_turns_10 : decode fX7_turns.2.1 10 = .ok (.iconst 5, 1) := by decide +kernel
theorem dX7_turns_11 : decode fX7_turns.2.1 11 = .ok (.invokestatic 78, 3) := by decide +kernel
theorem dX7_turns_14 : decode fX7_turns.2.1 14 = .ok (.ifCond .eq 17, 3) := by decide +kernel
theorem dX7_turns_17 : decode fX7_turns.2.1 17 = .ok (.aload_n 0, 1) := by decide +kernel
theorem dX7_turns_18 : decode fX7_turns.2.1 18 = .ok (.bipush 26, 2) := by decide +kernel
theorem dX7_turns_20 : decode fX7_turns.2.1 20 = .ok (.iconst 5, 1) := by decide +kernel
theorem dX7_turns_21 : decode fX7_turns.2.1 21 = .ok (.iload_n 1, 1) := by decide +kernel
theorem dX7_turns_22 : decode fX7_turns.2.1 22 = .ok (.imul, 1) := by decide +kernel
theorem dX7_turns_23 : decode fX7_turns.2.1 23 = .ok (.iadd, 1) := by decide +kernel
theorem dX7_turns_24 : decode fX7_turns.2.1 24 = .ok (.iload_n 2, 1) := by decide +kernel
theorem dX7_turns_25 : decode fX7_turns.2.1 25 = .ok (.invokevirtual 142, 3) := by decide +kernel
theorem dX7_turns_28 : decode fX7_turns.2.1 28 = .ok (.goto 5, 3) := by decide +kernel
theorem dX7_turns_31 : decode fX7_turns.2.1 31 = .ok (.ldc 127, 2) := by decide +kernel
theorem dX7_turns_33 : decode fX7_turns.2.1 33 = .ok (.ireturn, 1) := by decide +kernel
set_option maxRecDepth 100000 in
set_option maxHeartbeats 4000000 in
theorem ok_X7_turns {X : Xb} {S : Sg} {mi : Mem} {o n : Nat} {A : Nat → Int32} {v k : Int32} (hM : MdA S o) (hn8 : n ≤ 8) (hA : mi (o + 1) = A) (hn : A 1 = nI n) : Ok 2 0 0 fX7_turns X [rf X o, .int v, .int k] S mi (PM S mi o (sTurns A n v k)) := by
  refine Ok.go [some (rf X o), some (.int v), some (.int k)] (by decide) (by simp [Value.category]) (Nat.le_of_ble_eq_true rfl) rfl ?_
  obtain ⟨k_o, ⟨r_o_now, k_o_now⟩, ⟨r_o_image, k_o_image⟩, ⟨r_o_aside, k_o_aside⟩, ⟨r_o_seen, k_o_seen⟩, ⟨r_o_unlike, k_o_unlike⟩, ⟨r_o_tape, k_o_tape⟩, ⟨r_o_keys, k_o_keys⟩, ⟨r_o_keyAt, k_o_keyAt⟩, ⟨r_o_code, k_o_code⟩, ⟨r_o_waits, k_o_waits⟩, ⟨r_o_tested, k_o_tested⟩, ⟨r_o_stack, k_o_stack⟩, ⟨r_o_facts, k_o_facts⟩, ⟨r_o_sorts, k_o_sorts⟩, ⟨r_o_sizes, k_o_sizes⟩, ⟨r_o_cells, k_o_cells⟩, ⟨r_o_holds, k_o_holds⟩, ⟨r_o_holdsA, k_o_holdsA⟩, ⟨r_o_holdsB, k_o_holdsB⟩, ⟨r_o_heldCells, k_o_heldCells⟩, ⟨r_o_moved, k_o_moved⟩, ⟨r_o_tells, k_o_tells⟩⟩ := id hM
  subst hA
  have z := FrM.rf o mi
  refine mw_aload_n dX7_turns_0 rfl ?_
  refine mw_iload_n dX7_turns_1 rfl ?_
  refine mw_cVI (g := fX7_isAttic) dX7_turns_2 ml_X7_132 mfX7_isAttic (ok_X7_isAttic hM) (by assumption) rfl rfl (Nat.le_of_ble_eq_true rfl) ⟨by decide, by decide⟩ ⟨by decide, by decide⟩ ?_
  rw [hn]
  refine mw_if_eqB (tgt := 31) dX7_turns_5 (by decide) (fun h5 => ?_) (fun h5 => ?_)
  · skip
    refine mw_ldc dX7_turns_31 cn_X7_127 ?_
    exact mw_iret dX7_turns_33 rfl (by decide) (by decide) (by first | (rw [sTurns, if_pos (And.intro h5 h14), ecl]; exact ⟨rfl, rfl, m_up_row _ _ _ _, z.up⟩) | (rw [sTurns, if_neg (by grind)]; exact ⟨rfl, rfl, rfl, z⟩))
  · skip
    refine mw_iload_n dX7_turns_8 rfl ?_
    refine mw_iconst (v := 0) dX7_turns_9 (by decide) ?_
    refine mw_iconst (v := 5) dX7_turns_10 (by decide) ?_
    refine mw_cSI (g := fX7_in) dX7_turns_11 ml_X7_78 mfX7_in (ok_X7_in) rfl rfl (Nat.le_of_ble_eq_true rfl) ⟨by decide, by decide⟩ ⟨by decide, by decide⟩ ?_
    refine mw_if_eqB (tgt := 31) dX7_turns_14 (by decide) (fun h14 => ?_) (fun h14 => ?_)
    · skip
      refine mw_ldc dX7_turns_31 cn_X7_127 ?_
      exact mw_iret dX7_turns_33 rfl (by decide) (by decide) (by first | (rw [sTurns, if_pos (And.intro h5 h14), ecl]; exact ⟨rfl, rfl, m_up_row _ _ _ _, z.up⟩) | (rw [sTurns, if_neg (by grind)]; exact ⟨rfl, rfl, rfl, z⟩))
    · skip
      obtain ⟨a, han, rfl⟩ := inAt h5 hn8
      have ecl : (nI a).toNatClampNeg = a := nI_clamp (by omega)
      refine mw_aload_n dX7_turns_17 rfl ?_
      refine mw_bipush (v := 26) dX7_turns_18 (by decide) ?_
      refine mw_iconst (v := 5) dX7_turns_20 (by decide) ?_
      refine mw_iload_n dX7_turns_21 rfl ?_
      refine mw_imul dX7_turns_22 ?_
      refine mw_iadd dX7_turns_23 ?_
      rw [show (26 : Int32) + 5 * nI a = nI (26 + 5 * a) from (by have := ixA a 0; rw [nI_0, Int32.add_zero, Nat.add_zero] at this; exact this)]
      refine mw_iload_n dX7_turns_24 rfl ?_
      refine mw_cVI (g := fX7_swaps) dX7_turns_25 ml_X7_142 mfX7_swaps (ok_X7_swaps hM (s := 26 + 5 * a) (by omega)) (by assumption) rfl rfl (Nat.le_of_ble_eq_true rfl) ⟨by decide, by decide⟩ ⟨by decide, by decide⟩ ?_
      refine mw_goto (tgt := 33) dX7_turns_28 (by decide) ?_
      exact mw_iret dX7_turns_33 rfl (by decide) (by decide) (by first | (rw [sTurns, if_pos (And.intro h5 h14), ecl]; exact ⟨rfl, rfl, m_up_row _ _ _ _, z.up⟩) | (rw [sTurns, if_neg (by grind)]; exact ⟨rfl, rfl, rfl, z⟩))
