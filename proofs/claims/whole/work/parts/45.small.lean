/-! trim, why, fee, fine -/
theorem dX6_trim_0 : decode fX6_trim.2.1 0 = .ok (.iload_n 1, 1) := by decide +kernel
theorem dX6_trim_1 : decode fX6_trim.2.1 1 = .ok (.iconst 0, 1) := by decide +kernel
theorem dX6_trim_2 : decode fX6_trim.2.1 2 = .ok (.aload_n 0, 1) := by decide +kernel
theorem dX6_trim_3 : decode fX6_trim.2.1 3 = .ok (.getfield 25, 3) := by decide +kernel
theorem dX6_trim_6 : decode fX6_trim.2.1 6 = .ok (.getfield 204, 3) := by decide +kernel
theorem dX6_trim_9 : decode fX6_trim.2.1 9 = .ok (.invokestatic 50, 3) := by decide +kernel
theorem dX6_trim_12 : decode fX6_trim.2.1 12 = .ok (.ifCond .ne 6, 3) := by decide +kernel
theorem dX6_trim_15 : decode fX6_trim.2.1 15 = .ok (.ldc 58, 2) := by decide +kernel
theorem dX6_trim_17 : decode fX6_trim.2.1 17 = .ok (.ireturn, 1) := by decide +kernel
theorem dX6_trim_18 : decode fX6_trim.2.1 18 = .ok (.aload_n 0, 1) := by decide +kernel
theorem dX6_trim_19 : decode fX6_trim.2.1 19 = .ok (.getfield 25, 3) := by decide +kernel
theorem dX6_trim_22 : decode fX6_trim.2.1 22 = .ok (.iload_n 1, 1) := by decide +kernel
theorem dX6_trim_23 : decode fX6_trim.2.1 23 = .ok (.putfield 204, 3) := by decide +kernel
theorem dX6_trim_26 : decode fX6_trim.2.1 26 = .ok (.iload_n 1, 1) := by decide +kernel
theorem dX6_trim_27 : decode fX6_trim.2.1 27 = .ok (.ireturn, 1) := by decide +kernel
set_option maxRecDepth 100000 in
set_option maxHeartbeats 4000000 in
theorem ok_X6_trim {X : Xb} {S : Sg} {mi : Mem} {x : Nat} {v : Int32} (hX : AsA S x) : Ok 1 0 0 fX6_trim X [rf X x, .int v] S mi (fun r S' m => r = some (.int (if 0 ≤ v ∧ v ≤ mi (x + 52) 1 then v else BADi)) ∧ S' = S ∧ m = if 0 ≤ v ∧ v ≤ mi (x + 52) 1 then m_up mi (x + 52) 1 v else mi) := by
  refine Ok.go [some (rf X x), some (.int v)] (by decide) (by simp [Value.category]) (Nat.le_of_ble_eq_true rfl) rfl ?_
  obtain ⟨k_x, ⟨r_x_now, t_now⟩, ⟨r_x_thought, t_thought⟩, ⟨r_x_image, t_image⟩, ⟨r_x_tape, t_tape⟩, ⟨r_x_sheets, k_x_sheets⟩, ⟨r_x_slots, k_x_slots⟩, ⟨r_x_waiting, k_x_waiting⟩, ⟨r_x_diff, k_x_diff⟩, a_sheets, a_slots⟩ := id hX
  have k_tp := hX.2.2.2.2.1.2.1
  refine mw_iload_n dX6_trim_0 rfl ?_
  refine mw_iconst (v := 0) dX6_trim_1 (by decide) ?_
  refine mw_aload_n dX6_trim_2 rfl ?_
  refine mw_getr dX6_trim_3 fl_X6_25 rfl (by assumption) (by assumption) ?_
  refine mw_geti dX6_trim_6 fl_X6_204 rfl (by assumption) ?_
  refine mw_cSI (g := fX6_within) dX6_trim_9 ml_X6_50 mfX6_within (ok_X6_within) rfl rfl (Nat.le_of_ble_eq_true rfl) ⟨by decide, by decide⟩ ⟨by decide, by decide⟩ ?_
  refine mw_if_neB (tgt := 18) dX6_trim_12 (by decide) (fun h12 => ?_) (fun h12 => ?_)
  · skip
    refine mw_aload_n dX6_trim_18 rfl ?_
    refine mw_getr dX6_trim_19 fl_X6_25 rfl (by assumption) (by assumption) ?_
    refine mw_iload_n dX6_trim_22 rfl ?_
    refine mw_puti dX6_trim_23 fl_X6_204 ft_3_1 rfl (rfl) rfl (by assumption) ?_
    refine mw_iload_n dX6_trim_26 rfl ?_
    exact mw_iret dX6_trim_27 rfl (by decide) (by decide) (by rw [if_pos h12, if_pos h12]; exact ⟨rfl, rfl, rfl⟩)
  · skip
    refine mw_ldc dX6_trim_15 cn_X6_58 ?_
    exact mw_iret dX6_trim_17 rfl (by decide) (by decide) (by rw [if_neg h12, if_neg h12]; exact ⟨rfl, rfl, rfl⟩)
theorem dX7_trim_0 : decode fX7_trim.2.1 0 = .ok (.iload_n 1, 1) := by decide +kernel
theorem dX7_trim_1 : decode fX7_trim.2.1 1 = .ok (.iconst 0, 1) := by decide +kernel
theorem dX7_trim_2 : decode fX7_trim.2.1 2 = .ok (.aload_n 0, 1) := by decide +kernel
theorem dX7_trim_3 : decode fX7_trim.2.1 3 = .ok (.getfield 194, 3) := by decide +kernel
theorem dX7_trim_6 : decode fX7_trim.2.1 6 = .ok (.invokestatic 78, 3) := by decide +kernel
theorem dX7_trim_9 : decode fX7_trim.2.1 9 = .ok (.ifCond .ne 6, 3) := by decide +kernel
theorem dX7_trim_12 : decode fX7_trim.2.1 12 = .ok (.ldc 127, 2) := by decide +kernel
theorem dX7_trim_14 : decode fX7_trim.2.1 14 = .ok (.ireturn, 1) := by decide +kernel
theorem dX7_trim_15 : decode fX7_trim.2.1 15 = .ok (.aload_n 0, 1) := by decide +kernel
theorem dX7_trim_16 : decode fX7_trim.2.1 16 = .ok (.iload_n 1, 1) := by decide +kernel
theorem dX7_trim_17 : decode fX7_trim.2.1 17 = .ok (.putfield 194, 3) := by decide +kernel
theorem dX7_trim_20 : decode fX7_trim.2.1 20 = .ok (.iload_n 1, 1) := by decide +kernel
theorem dX7_trim_21 : decode fX7_trim.2.1 21 = .ok (.ireturn, 1) := by decide +kernel
set_option maxRecDepth 100000 in
set_option maxHeartbeats 4000000 in
theorem ok_X7_trim {X : Xb} {S : Sg} {mi : Mem} {o : Nat} {v : Int32} (hM : MdA S o) : Ok 1 0 0 fX7_trim X [rf X o, .int v] S mi (fun r S' m => r = some (.int (if 0 ≤ v ∧ v ≤ mi o 7 then v else BADi)) ∧ S' = S ∧ m = if 0 ≤ v ∧ v ≤ mi o 7 then m_up mi o 7 v else mi) := by
  refine Ok.go [some (rf X o), some (.int v)] (by decide) (by simp [Value.category]) (Nat.le_of_ble_eq_true rfl) rfl ?_
  obtain ⟨k_o, ⟨r_o_now, k_o_now⟩, ⟨r_o_image, k_o_image⟩, ⟨r_o_aside, k_o_aside⟩, ⟨r_o_seen, k_o_seen⟩, ⟨r_o_unlike, k_o_unlike⟩, ⟨r_o_tape, k_o_tape⟩, ⟨r_o_keys, k_o_keys⟩, ⟨r_o_keyAt, k_o_keyAt⟩, ⟨r_o_code, k_o_code⟩, ⟨r_o_waits, k_o_waits⟩, ⟨r_o_tested, k_o_tested⟩, ⟨r_o_stack, k_o_stack⟩, ⟨r_o_facts, k_o_facts⟩, ⟨r_o_sorts, k_o_sorts⟩, ⟨r_o_sizes, k_o_sizes⟩, ⟨r_o_cells, k_o_cells⟩, ⟨r_o_holds, k_o_holds⟩, ⟨r_o_holdsA, k_o_holdsA⟩, ⟨r_o_holdsB, k_o_holdsB⟩, ⟨r_o_heldCells, k_o_heldCells⟩, ⟨r_o_moved, k_o_moved⟩, ⟨r_o_tells, k_o_tells⟩⟩ := id hM
  refine mw_iload_n dX7_trim_0 rfl ?_
  refine mw_iconst (v := 0) dX7_trim_1 (by decide) ?_
  refine mw_aload_n dX7_trim_2 rfl ?_
  refine mw_geti dX7_trim_3 fl_X7_194 rfl (by assumption) ?_
  refine mw_cSI (g := fX7_in) dX7_trim_6 ml_X7_78 mfX7_in (ok_X7_in) rfl rfl (Nat.le_of_ble_eq_true rfl) ⟨by decide, by decide⟩ ⟨by decide, by decide⟩ ?_
  refine mw_if_neB (tgt := 15) dX7_trim_9 (by decide) (fun h9 => ?_) (fun h9 => ?_)
  · skip
    refine mw_aload_n dX7_trim_15 rfl ?_
    refine mw_iload_n dX7_trim_16 rfl ?_
    refine mw_puti dX7_trim_17 fl_X7_194 ft_7_7 rfl (rfl) rfl (by assumption) ?_
    refine mw_iload_n dX7_trim_20 rfl ?_
    exact mw_iret dX7_trim_21 rfl (by decide) (by decide) (by rw [if_pos h9, if_pos h9]; exact ⟨rfl, rfl, rfl⟩)
  · skip
    refine mw_ldc dX7_trim_12 cn_X7_127 ?_
    exact mw_iret dX7_trim_14 rfl (by decide) (by decide) (by rw [if_neg h9, if_neg h9]; exact ⟨rfl, rfl, rfl⟩)
def whyI (b : Int32) : Int32 := if b < 0 then NONEi else b
theorem dX6_why_0 : decode fX6_why.2.1 0 = .ok (.iload_n 1, 1) := by decide +kernel
theorem dX6_why_1 : decode fX6_why.2.1 1 = .ok (.iconst 0, 1) := by decide +kernel
theorem dX6_why_2 : decode fX6_why.2.1 2 = .ok (.iconst 2, 1) := by decide +kernel
theorem dX6_why_3 : decode fX6_why.2.1 3 = .ok (.invokestatic 50, 3) := by decide +kernel
theorem dX6_why_6 : decode fX6_why.2.1 6 = .ok (.ifCond .ne 6, 3) := by decide +kernel
theorem dX6_why_9 : decode fX6_why.2.1 9 = .ok (.ldc 58, 2) := by decide +kernel
theorem dX6_why_11 : decode fX6_why.2.1 11 = .ok (.ireturn, 1) := by decide +kernel
theorem dX6_why_12 : decode fX6_why.2.1 12 = .ok (.aload_n 0, 1) := by decide +kernel
theorem dX6_why_13 : decode fX6_why.2.1 13 = .ok (.getfield 10, 3) := by decide +kernel
theorem dX6_why_16 : decode fX6_why.2.1 16 = .ok (.getfield 238, 3) := by decide +kernel
theorem dX6_why_19 : decode fX6_why.2.1 19 = .ok (.iload_n 1, 1) := by decide +kernel
theorem dX6_why_20 : decode fX6_why.2.1 20 = .ok (.iaload, 1) := by decide +kernel
theorem dX6_why_21 : decode fX6_why.2.1 21 = .ok (.ifCond .ge 8, 3) := by decide +kernel
theorem dX6_why_24 : decode fX6_why.2.1 24 = .ok (.ldc 182, 2) := by decide +kernel
theorem dX6_why_26 : decode fX6_why.2.1 26 = .ok (.goto 12, 3) := by decide +kernel
theorem dX6_why_29 : decode fX6_why.2.1 29 = .ok (.aload_n 0, 1) := by decide +kernel
theorem dX6_why_30 : decode fX6_why.2.1 30 = .ok (.getfield 10, 3) := by decide +kernel
theorem dX6_why_33 : decode fX6_why.2.1 33 = .ok (.getfield 238, 3) := by decide +kernel
theorem dX6_why_36 : decode fX6_why.2.1 36 = .ok (.iload_n 1, 1) := by decide +kernel
theorem dX6_why_37 : decode fX6_why.2.1 37 = .ok (.iaload, 1) := by decide +kernel
theorem dX6_why_38 : decode fX6_why.2.1 38 = .ok (.ireturn, 1) := by decide +kernel
set_option maxRecDepth 100000 in
set_option maxHeartbeats 4000000 in
theorem ok_X6_why {X : Xb} {S : Sg} {mi : Mem} {x : Nat} {v : Int32} (hX : AsA S x) : Ok 1 0 0 fX6_why X [rf X x, .int v] S mi (fun r S' m => r = some (.int (if 0 ≤ v ∧ v ≤ 2 then whyI (mi (x + 6) v.toNatClampNeg) else BADi)) ∧ S' = S ∧ m = mi) := by
  refine Ok.go [some (rf X x), some (.int v)] (by decide) (by simp [Value.category]) (Nat.le_of_ble_eq_true rfl) rfl ?_
  obtain ⟨k_x, ⟨r_x_now, t_now⟩, ⟨r_x_thought, t_thought⟩, ⟨r_x_image, t_image⟩, ⟨r_x_tape, t_tape⟩, ⟨r_x_sheets, k_x_sheets⟩, ⟨r_x_slots, k_x_slots⟩, ⟨r_x_waiting, k_x_waiting⟩, ⟨r_x_diff, k_x_diff⟩, a_sheets, a_slots⟩ := id hX
  obtain ⟨k_t, ⟨r_t_home, k_t_home⟩, ⟨r_t_price, k_t_price⟩, ⟨r_t_attics, k_t_attics⟩, ⟨r_t_texts, k_t_texts⟩, ⟨r_t_counting, k_t_counting⟩, ⟨r_t_names, k_t_names⟩, ⟨r_t_pile, k_t_pile⟩, ⟨r_t_views, k_t_views⟩, a_t⟩ := id t_now
  have go : ∀ p, p ≤ 2 → v = nI p → MW X fX6_why (rmOf 1 0 0) 0 0 12 [some (rf X x), some (.int (nI p))] [] S mi (mQ X 0 0 (fun r S' m => r = some (.int (if 0 ≤ v ∧ v ≤ 2 then whyI (mi (x + 6) v.toNatClampNeg) else BADi)) ∧ S' = S ∧ m = mi)) := by
    intro p hp2 hv
    have hc : 0 ≤ v ∧ v ≤ 2 := by rw [hv]; exact ⟨nI_pos' (by omega), nI_le (b := 2) hp2 (by decide)⟩
    have ev : v.toNatClampNeg = p := by rw [hv, nI_clamp (by omega)]
    refine mw_aload_n dX6_why_12 rfl ?_
    refine mw_getr dX6_why_13 fl_X6_10 rfl (by assumption) (by assumption) ?_
    refine mw_getr dX6_why_16 fl_X6_238 rfl (by assumption) (by assumption) ?_
    refine mw_iload_n dX6_why_19 rfl ?_
    refine mw_ialdK (k := p) dX6_why_20 (by assumption) (rfl) (by omega) (by decide) ?_
    refine mw_if_ge (tgt := 29) dX6_why_21 (by decide) (fun h21 => ?_) (fun h21 => ?_)
    · skip
      refine mw_aload_n dX6_why_29 rfl ?_
      refine mw_getr dX6_why_30 fl_X6_10 rfl (by assumption) (by assumption) ?_
      refine mw_getr dX6_why_33 fl_X6_238 rfl (by assumption) (by assumption) ?_
      refine mw_iload_n dX6_why_36 rfl ?_
      refine mw_ialdK (k := p) dX6_why_37 (by assumption) (rfl) (by omega) (by decide) ?_
      exact mw_iret dX6_why_38 rfl (by decide) (by decide) (⟨by first | (rw [if_pos hc, ev, whyI, if_pos (Int32.not_le.mp h21)]; done) | (rw [if_pos hc, ev, whyI, if_neg (Int32.not_lt.mpr h21)]; done), rfl, rfl⟩)
    · skip
      refine mw_ldc dX6_why_24 cn_X6_182 ?_
      refine mw_goto (tgt := 38) dX6_why_26 (by decide) ?_
      exact mw_iret dX6_why_38 rfl (by decide) (by decide) (⟨by first | (rw [if_pos hc, ev, whyI, if_pos (Int32.not_le.mp h21)]; done) | (rw [if_pos hc, ev, whyI, if_neg (Int32.not_lt.mpr h21)]; done), rfl, rfl⟩)
  refine mw_iload_n dX6_why_0 rfl ?_
  refine mw_iconst (v := 0) dX6_why_1 (by decide) ?_
  refine mw_iconst (v := 2) dX6_why_2 (by decide) ?_
  refine mw_cSI (g := fX6_within) dX6_why_3 ml_X6_50 mfX6_within (ok_X6_within) rfl rfl (Nat.le_of_ble_eq_true rfl) ⟨by decide, by decide⟩ ⟨by decide, by decide⟩ ?_
  refine mw_if_neB (tgt := 12) dX6_why_6 (by decide) (fun h6 => ?_) (fun h6 => ?_)
  · skip
    obtain ⟨p, hp, hv⟩ := in02 h6
    have gg := go p hp hv
    rw [← hv] at gg
    exact gg
  · skip
    refine mw_ldc dX6_why_9 cn_X6_58 ?_
    exact mw_iret dX6_why_11 rfl (by decide) (by decide) (by rw [if_neg h6]; exact ⟨rfl, rfl, rfl⟩)
theorem dX7_why_0 : decode fX7_why.2.1 0 = .ok (.iload_n 1, 1) := by decide +kernel
theorem dX7_why_1 : decode fX7_why.2.1 1 = .ok (.iconst 0, 1) := by decide +kernel
theorem dX7_why_2 : decode fX7_why.2.1 2 = .ok (.iconst 2, 1) := by decide +kernel
theorem dX7_why_3 : decode fX7_why.2.1 3 = .ok (.invokestatic 78, 3) := by decide +kernel
theorem dX7_why_6 : decode fX7_why.2.1 6 = .ok (.ifCond .ne 6, 3) := by decide +kernel
theorem dX7_why_9 : decode fX7_why.2.1 9 = .ok (.ldc 127, 2) := by decide +kernel
theorem dX7_why_11 : decode fX7_why.2.1 11 = .ok (.ireturn, 1) := by decide +kernel
theorem dX7_why_12 : decode fX7_why.2.1 12 = .ok (.aload_n 0, 1) := by decide +kernel
theorem dX7_why_13 : decode fX7_why.2.1 13 = .ok (.iload_n 1, 1) := by decide +kernel
theorem dX7_why_14 : decode fX7_why.2.1 14 = .ok (.invokevirtual 107, 3) := by decide +kernel
theorem dX7_why_17 : decode fX7_why.2.1 17 = .ok (.istore_n 2, 1) := by decide +kernel
theorem dX7_why_18 : decode fX7_why.2.1 18 = .ok (.iload_n 2, 1) := by decide +kernel
theorem dX7_why_19 : decode fX7_why.2.1 19 = .ok (.ifCond .ge 8, 3) := by decide +kernel
theorem dX7_why_22 : decode fX7_why.2.1 22 = .ok (.ldc 172, 2) := by decide +kernel
theorem dX7_why_24 : decode fX7_why.2.1 24 = .ok (.goto 4, 3) := by decide +kernel
theorem dX7_why_27 : decode fX7_why.2.1 27 = .ok (.iload_n 2, 1) := by decide +kernel
theorem dX7_why_28 : decode fX7_why.2.1 28 = .ok (.ireturn, 1) := by decide +kernel
set_option maxRecDepth 100000 in
set_option maxHeartbeats 4000000 in
theorem ok_X7_why {X : Xb} {S : Sg} {mi : Mem} {o n : Nat} {v : Int32} (hM : MdA S o) (hn : mi (o + 1) 5 = nI n) (hn14 : n ≤ 14) : Ok 1 0 0 fX7_why X [rf X o, .int v] S mi (fun r S' m => r = some (.int (if 0 ≤ v ∧ v ≤ 2 then whyI (lastI (mi (o + 1)) v n) else BADi)) ∧ S' = S ∧ m = mi) := by
  refine Ok.go [some (rf X o), some (.int v), none] (by decide) (by simp [Value.category]) (Nat.le_of_ble_eq_true rfl) rfl ?_
  obtain ⟨k_o, ⟨r_o_now, k_o_now⟩, ⟨r_o_image, k_o_image⟩, ⟨r_o_aside, k_o_aside⟩, ⟨r_o_seen, k_o_seen⟩, ⟨r_o_unlike, k_o_unlike⟩, ⟨r_o_tape, k_o_tape⟩, ⟨r_o_keys, k_o_keys⟩, ⟨r_o_keyAt, k_o_keyAt⟩, ⟨r_o_code, k_o_code⟩, ⟨r_o_waits, k_o_waits⟩, ⟨r_o_tested, k_o_tested⟩, ⟨r_o_stack, k_o_stack⟩, ⟨r_o_facts, k_o_facts⟩, ⟨r_o_sorts, k_o_sorts⟩, ⟨r_o_sizes, k_o_sizes⟩, ⟨r_o_cells, k_o_cells⟩, ⟨r_o_holds, k_o_holds⟩, ⟨r_o_holdsA, k_o_holdsA⟩, ⟨r_o_holdsB, k_o_holdsB⟩, ⟨r_o_heldCells, k_o_heldCells⟩, ⟨r_o_moved, k_o_moved⟩, ⟨r_o_tells, k_o_tells⟩⟩ := id hM
  refine mw_iload_n dX7_why_0 rfl ?_
  refine mw_iconst (v := 0) dX7_why_1 (by decide) ?_
  refine mw_iconst (v := 2) dX7_why_2 (by decide) ?_
  refine mw_cSI (g := fX7_in) dX7_why_3 ml_X7_78 mfX7_in (ok_X7_in) rfl rfl (Nat.le_of_ble_eq_true rfl) ⟨by decide, by decide⟩ ⟨by decide, by decide⟩ ?_
  refine mw_if_neB (tgt := 12) dX7_why_6 (by decide) (fun h6 => ?_) (fun h6 => ?_)
  · skip
    refine mw_aload_n dX7_why_12 rfl ?_
    refine mw_iload_n dX7_why_13 rfl ?_
    refine mw_cVI (g := fX7_counts) dX7_why_14 ml_X7_107 mfX7_counts (ok_X7_counts (key := v) hM hn hn14) (by assumption) rfl rfl (Nat.le_of_ble_eq_true rfl) ⟨by decide, by decide⟩ ⟨by decide, by decide⟩ ?_
    refine mw_istN 2 dX7_why_17 rfl (by decide) ?_
    refine mw_iload_n dX7_why_18 rfl ?_
    refine mw_if_ge (tgt := 27) dX7_why_19 (by decide) (fun h19 => ?_) (fun h19 => ?_)
    · skip
      refine mw_iload_n dX7_why_27 rfl ?_
      exact mw_iret dX7_why_28 rfl (by decide) (by decide) (⟨by first | (rw [if_pos h6, whyI, if_pos (Int32.not_le.mp h19)]; done) | (rw [if_pos h6, whyI, if_neg (Int32.not_lt.mpr h19)]; done), rfl, rfl⟩)
    · skip
      refine mw_ldc dX7_why_22 cn_X7_172 ?_
      refine mw_goto (tgt := 28) dX7_why_24 (by decide) ?_
      exact mw_iret dX7_why_28 rfl (by decide) (by decide) (⟨by first | (rw [if_pos h6, whyI, if_pos (Int32.not_le.mp h19)]; done) | (rw [if_pos h6, whyI, if_neg (Int32.not_lt.mpr h19)]; done), rfl, rfl⟩)
  · skip
    refine mw_ldc dX7_why_9 cn_X7_127 ?_
    exact mw_iret dX7_why_11 rfl (by decide) (by decide) (by rw [if_neg h6]; exact ⟨rfl, rfl, rfl⟩)
theorem dX6_fee_0 : decode fX6_fee.2.1 0 = .ok (.aload_n 0, 1) := by decide +kernel
theorem dX6_fee_1 : decode fX6_fee.2.1 1 = .ok (.getfield 10, 3) := by decide +kernel
theorem dX6_fee_4 : decode fX6_fee.2.1 4 = .ok (.invokevirtual 198, 3) := by decide +kernel
theorem dX6_fee_7 : decode fX6_fee.2.1 7 = .ok (.ireturn, 1) := by decide +kernel
set_option maxRecDepth 100000 in
set_option maxHeartbeats 4000000 in
theorem ok_X6_fee {X : Xb} {S : Sg} {mi : Mem} {x n : Nat} (hX : AsA S x) (hn : mi (x + 1) 3 = nI n) (hn8 : n ≤ 8) (hx : TxOk2 S mi (x + 1) 1) : Ok 3 0 0 fX6_fee X [rf X x] S mi (fun r S' m => r = some (.int (law2F (lwC S mi (x + 1) 1) (mi (x + 1) 8) (mi (x + 1) 8) (fld (fun s i => s + mi (x + 1 + 9 + i) 4) 0 n))) ∧ S' = S ∧ Scr (x + 1) mi m) := by
  refine Ok.go [some (rf X x)] (by decide) (by simp [Value.category]) (Nat.le_of_ble_eq_true rfl) rfl ?_
  obtain ⟨k_x, ⟨r_x_now, t_now⟩, ⟨r_x_thought, t_thought⟩, ⟨r_x_image, t_image⟩, ⟨r_x_tape, t_tape⟩, ⟨r_x_sheets, k_x_sheets⟩, ⟨r_x_slots, k_x_slots⟩, ⟨r_x_waiting, k_x_waiting⟩, ⟨r_x_diff, k_x_diff⟩, a_sheets, a_slots⟩ := id hX
  refine mw_aload_n dX6_fee_0 rfl ?_
  refine mw_getr dX6_fee_1 fl_X6_10 rfl (by assumption) (by assumption) ?_
  refine mw_callV (g := fX5_feeGives) dX6_fee_4 ml_X6_198 mfX5_feeGives (ok_X5_feeGives t_now hn hn8 hx) (t_now.1) rfl rfl (Nat.le_of_ble_eq_true rfl) ⟨by decide, by decide⟩ ⟨by decide, by decide⟩ (fun r S2 mi2 hp => ?_)
  obtain ⟨rfl, e1, e2⟩ := hp
  exact mw_iret dX6_fee_7 rfl (by decide) (by decide) (⟨rfl, e1, e2⟩)
