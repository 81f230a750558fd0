/-! the object's calls: chimney, smokes, rule, seed, deal, hours, town, cover -/
def sChim (A : Nat → Int32) (n : Nat) (b v : Int32) : Sp := if (0 ≤ b ∧ b ≤ 23) ∧ (0 ≤ v ∧ v ≤ 1) then (A 9 >>> (b &&& 31) &&& 1, (if A 9 >>> (b &&& 31) &&& 1 = v then A else upd A 9 (A 9 ^^^ (1 <<< (b &&& 31)))), n) else (BADi, A, n)
theorem dX6_chimney_0 : decode fX6_chimney.2.1 0 = .ok (.iload_n 1, 1) := by decide +kernel
theorem dX6_chimney_1 : decode fX6_chimney.2.1 1 = .ok (.invokestatic 54, 3) := by decide +kernel
theorem dX6_chimney_4 : decode fX6_chimney.2.1 4 = .ok (.ifCond .eq 12, 3) := by decide +kernel
theorem dX6_chimney_7 : decode fX6_chimney.2.1 7 = .ok (.iload_n 2, 1) := by decide +kernel
theorem dX6_chimney_8 : decode fX6_chimney.2.1 8 = .ok (.iconst 0, 1) := by decide +kernel
theorem dX6_chimney_9 : decode fX6_chimney.2.1 9 = .ok (.iconst 1, 1) := by decide +kernel
theorem dX6_chimney_10 : decode fX6_chimney.2.1 10 = .ok (.invokestatic 50, 3) := by decide +kernel
theorem dX6_chimney_13 : decode fX6_chimney.2.1 13 = .ok (.ifCond .ne 6, 3) := by decide +kernel
theorem dX6_chimney_16 : decode fX6_chimney.2.1 16 = .ok (.ldc 58, 2) := by decide +kernel
theorem dX6_chimney_18 : decode fX6_chimney.2.1 18 = .ok (.ireturn, 1) := by decide +kernel
theorem dX6_chimney_19 : decode fX6_chimney.2.1 19 = .ok (.aload_n 0, 1) := by decide +kernel
theorem dX6_chimney_20 : decode fX6_chimney.2.1 20 = .ok (.getfield 10, 3) := by decide +kernel
theorem dX6_chimney_23 : decode fX6_chimney.2.1 23 = .ok (.getfield 118, 3) := by decide +kernel
theorem dX6_chimney_26 : decode fX6_chimney.2.1 26 = .ok (.iload_n 1, 1) := by decide +kernel
theorem dX6_chimney_27 : decode fX6_chimney.2.1 27 = .ok (.ishr, 1) := by decide +kernel
theorem dX6_chimney_28 : decode fX6_chimney.2.1 28 = .ok (.iconst 1, 1) := by decide +kernel
theorem dX6_chimney_29 : decode fX6_chimney.2.1 29 = .ok (.iand, 1) := by decide +kernel
theorem dX6_chimney_30 : decode fX6_chimney.2.1 30 = .ok (.istore_n 3, 1) := by decide +kernel
theorem dX6_chimney_31 : decode fX6_chimney.2.1 31 = .ok (.iload_n 3, 1) := by decide +kernel
theorem dX6_chimney_32 : decode fX6_chimney.2.1 32 = .ok (.iload_n 2, 1) := by decide +kernel
theorem dX6_chimney_33 : decode fX6_chimney.2.1 33 = .ok (.if_icmp .eq 18, 3) := by decide +kernel
theorem dX6_chimney_36 : decode fX6_chimney.2.1 36 = .ok (.aload_n 0, 1) := by decide +kernel
theorem dX6_chimney_37 : decode fX6_chimney.2.1 37 = .ok (.getfield 10, 3) := by decide +kernel
theorem dX6_chimney_40 : decode fX6_chimney.2.1 40 = .ok (.dup, 1) := by decide +kernel
theorem dX6_chimney_41 : decode fX6_chimney.2.1 41 = .ok (.getfield 118, 3) := by decide +kernel
theorem dX6_chimney_44 : decode fX6_chimney.2.1 44 = .ok (.iconst 1, 1) := by decide +kernel
theorem dX6_chimney_45 : decode fX6_chimney.2.1 45 = .ok (.iload_n 1, 1) := by decide +kernel
theorem dX6_chimney_46 : decode fX6_chimney.2.1 46 = .ok (.ishl, 1) := by decide +kernel
theorem dX6_chimney_47 : decode fX6_chimney.2.1 47 = .ok (.ixor, 1) := by decide +kernel
theorem dX6_chimney_48 : decode fX6_chimney.2.1 48 = .ok (.putfield 118, 3) := by decide +kernel
theorem dX6_chimney_51 : decode fX6_chimney.2.1 51 = .ok (.iload_n 3, 1) := by decide +kernel
theorem dX6_chimney_52 : decode fX6_chimney.2.1 52 = .ok (.ireturn, 1) := by decide +kernel
set_option maxRecDepth 100000 in
set_option maxHeartbeats 4000000 in
theorem ok_X6_chimney {X : Xb} {S : Sg} {mi : Mem} {x n : Nat} {A : Nat → Int32} {b v : Int32} (hX : AsA S x) (hn8 : n ≤ 8) (hA : eqOn (26 + 5 * n) (tv mi (x + 1)) A) (hn : A 1 = nI n) : Ok 2 0 0 fX6_chimney X [rf X x, .int b, .int v] S mi (PS S mi x (sChim A n b v)) := by
  refine Ok.go [some (rf X x), some (.int b), some (.int v), none] (by decide) (by simp [Value.category]) (Nat.le_of_ble_eq_true rfl) rfl ?_
  obtain ⟨k_x, ⟨r_x_now, t_now⟩, ⟨r_x_thought, t_thought⟩, ⟨r_x_image, t_image⟩, ⟨r_x_tape, t_tape⟩, ⟨r_x_sheets, k_x_sheets⟩, ⟨r_x_slots, k_x_slots⟩, ⟨r_x_waiting, k_x_waiting⟩, ⟨r_x_diff, k_x_diff⟩, a_sheets, a_slots⟩ := id hX
  obtain ⟨k_t, ⟨r_t_home, k_t_home⟩, ⟨r_t_price, k_t_price⟩, ⟨r_t_attics, k_t_attics⟩, ⟨r_t_texts, k_t_texts⟩, ⟨r_t_counting, k_t_counting⟩, ⟨r_t_names, k_t_names⟩, ⟨r_t_pile, k_t_pile⟩, ⟨r_t_views, k_t_views⟩, a_t⟩ := id t_now
  have z := Fr1.rf (x + 1) mi
  have e4 : mi (x + 1) 4 = A 9 := tv_0 (j := 9) hA (by decide) (by omega)
  refine mw_iload_n dX6_chimney_0 rfl ?_
  refine mw_cSI (g := fX6_isBearing) dX6_chimney_1 ml_X6_54 mfX6_isBearing (ok_X6_isBearing) rfl rfl (Nat.le_of_ble_eq_true rfl) ⟨by decide, by decide⟩ ⟨by decide, by decide⟩ ?_
  refine mw_if_eqB (tgt := 16) dX6_chimney_4 (by decide) (fun h4 => ?_) (fun h4 => ?_)
  · skip
    refine mw_ldc dX6_chimney_16 cn_X6_58 ?_
    exact mw_iret dX6_chimney_18 rfl (by decide) (by decide) (by rw [sChim, if_neg (by grind)]; exact ⟨rfl, rfl, hA, z⟩)
  · skip
    refine mw_iload_n dX6_chimney_7 rfl ?_
    refine mw_iconst (v := 0) dX6_chimney_8 (by decide) ?_
    refine mw_iconst (v := 1) dX6_chimney_9 (by decide) ?_
    refine mw_cSI (g := fX6_within) dX6_chimney_10 ml_X6_50 mfX6_within (ok_X6_within) rfl rfl (Nat.le_of_ble_eq_true rfl) ⟨by decide, by decide⟩ ⟨by decide, by decide⟩ ?_
    refine mw_if_neB (tgt := 19) dX6_chimney_13 (by decide) (fun h13 => ?_) (fun h13 => ?_)
    · skip
      refine mw_aload_n dX6_chimney_19 rfl ?_
      refine mw_getr dX6_chimney_20 fl_X6_10 rfl (by assumption) (by assumption) ?_
      refine mw_geti dX6_chimney_23 fl_X6_118 rfl (by assumption) ?_
      rw [e4]
      refine mw_iload_n dX6_chimney_26 rfl ?_
      refine mw_ishr dX6_chimney_27 ?_
      refine mw_iconst (v := 1) dX6_chimney_28 (by decide) ?_
      refine mw_iand dX6_chimney_29 ?_
      refine mw_istN 3 dX6_chimney_30 rfl (by decide) ?_
      refine mw_iload_n dX6_chimney_31 rfl ?_
      refine mw_iload_n dX6_chimney_32 rfl ?_
      refine mw_icmp_eq (tgt := 51) dX6_chimney_33 (by decide) (fun h33 => ?_) (fun h33 => ?_)
      · skip
        refine mw_iload_n dX6_chimney_51 rfl ?_
        exact mw_iret dX6_chimney_52 rfl (by decide) (by decide) (by
  rw [sChim, if_pos (by grind)]
  first
  | (rw [if_pos h33]; exact ⟨rfl, rfl, hA, z⟩)
  | (rw [if_neg h33]; exact ⟨rfl, rfl, tv_up0 (j := 9) (by decide) hA, z.up (by omega)⟩))
      · skip
        refine mw_aload_n dX6_chimney_36 rfl ?_
        refine mw_getr dX6_chimney_37 fl_X6_10 rfl (by assumption) (by assumption) ?_
        refine mw_dup dX6_chimney_40 rfl ?_
        refine mw_geti dX6_chimney_41 fl_X6_118 rfl (by assumption) ?_
        rw [e4]
        refine mw_iconst (v := 1) dX6_chimney_44 (by decide) ?_
        refine mw_iload_n dX6_chimney_45 rfl ?_
        refine mw_ishl dX6_chimney_46 ?_
        refine mw_ixor dX6_chimney_47 ?_
        refine mw_puti dX6_chimney_48 fl_X6_118 ft_5_4 rfl (rfl) rfl (by assumption) ?_
        refine mw_iload_n dX6_chimney_51 rfl ?_
        exact mw_iret dX6_chimney_52 rfl (by decide) (by decide) (by
  rw [sChim, if_pos (by grind)]
  first
  | (rw [if_pos h33]; exact ⟨rfl, rfl, hA, z⟩)
  | (rw [if_neg h33]; exact ⟨rfl, rfl, tv_up0 (j := 9) (by decide) hA, z.up (by omega)⟩))
    · skip
      refine mw_ldc dX6_chimney_16 cn_X6_58 ?_
      exact mw_iret dX6_chimney_18 rfl (by decide) (by decide) (by rw [sChim, if_neg (by grind)]; exact ⟨rfl, rfl, hA, z⟩)
def sSmokes (A : Nat → Int32) (b : Int32) : Int32 := if 0 ≤ b ∧ b ≤ 23 then A 9 >>> (b &&& 31) &&& 1 else BADi
theorem dX6_smokes_0 : decode fX6_smokes.2.1 0 = .ok (.iload_n 1, 1) := by decide +kernel
theorem dX6_smokes_1 : decode fX6_smokes.2.1 1 = .ok (.invokestatic 54, 3) := by decide +kernel
theorem dX6_smokes_4 : decode fX6_smokes.2.1 4 = .ok (.ifCond .eq 17, 3) := by decide +kernel
theorem dX6_smokes_7 : decode fX6_smokes.2.1 7 = .ok (.aload_n 0, 1) := by decide +kernel
theorem dX6_smokes_8 : decode fX6_smokes.2.1 8 = .ok (.getfield 10, 3) := by decide +kernel
theorem dX6_smokes_11 : decode fX6_smokes.2.1 11 = .ok (.getfield 118, 3) := by decide +kernel
theorem dX6_smokes_14 : decode fX6_smokes.2.1 14 = .ok (.iload_n 1, 1) := by decide +kernel
theorem dX6_smokes_15 : decode fX6_smokes.2.1 15 = .ok (.ishr, 1) := by decide +kernel
theorem dX6_smokes_16 : decode fX6_smokes.2.1 16 = .ok (.iconst 1, 1) := by decide +kernel
theorem dX6_smokes_17 : decode fX6_smokes.2.1 17 = .ok (.iand, 1) := by decide +kernel
theorem dX6_smokes_18 : decode fX6_smokes.2.1 18 = .ok (.goto 5, 3) := by decide +kernel
theorem dX6_smokes_21 : decode fX6_smokes.2.1 21 = .ok (.ldc 58, 2) := by decide +kernel
theorem dX6_smokes_23 : decode fX6_smokes.2.1 23 = .ok (.ireturn, 1) := by decide +kernel
set_option maxRecDepth 100000 in
set_option maxHeartbeats 4000000 in
theorem ok_X6_smokes {X : Xb} {S : Sg} {mi : Mem} {x n : Nat} {A : Nat → Int32} {b : Int32} (hX : AsA S x) (hn8 : n ≤ 8) (hA : eqOn (26 + 5 * n) (tv mi (x + 1)) A) (hn : A 1 = nI n) : Ok 2 0 0 fX6_smokes X [rf X x, .int b] S mi (PS S mi x (sSmokes A b, A, n)) := by
  refine Ok.go [some (rf X x), some (.int b)] (by decide) (by simp [Value.category]) (Nat.le_of_ble_eq_true rfl) rfl ?_
  obtain ⟨k_x, ⟨r_x_now, t_now⟩, ⟨r_x_thought, t_thought⟩, ⟨r_x_image, t_image⟩, ⟨r_x_tape, t_tape⟩, ⟨r_x_sheets, k_x_sheets⟩, ⟨r_x_slots, k_x_slots⟩, ⟨r_x_waiting, k_x_waiting⟩, ⟨r_x_diff, k_x_diff⟩, a_sheets, a_slots⟩ := id hX
  obtain ⟨k_t, ⟨r_t_home, k_t_home⟩, ⟨r_t_price, k_t_price⟩, ⟨r_t_attics, k_t_attics⟩, ⟨r_t_texts, k_t_texts⟩, ⟨r_t_counting, k_t_counting⟩, ⟨r_t_names, k_t_names⟩, ⟨r_t_pile, k_t_pile⟩, ⟨r_t_views, k_t_views⟩, a_t⟩ := id t_now
  have z := Fr1.rf (x + 1) mi
  have e4 : mi (x + 1) 4 = A 9 := tv_0 (j := 9) hA (by decide) (by omega)
  refine mw_iload_n dX6_smokes_0 rfl ?_
  refine mw_cSI (g := fX6_isBearing) dX6_smokes_1 ml_X6_54 mfX6_isBearing (ok_X6_isBearing) rfl rfl (Nat.le_of_ble_eq_true rfl) ⟨by decide, by decide⟩ ⟨by decide, by decide⟩ ?_
  refine mw_if_eqB (tgt := 21) dX6_smokes_4 (by decide) (fun h4 => ?_) (fun h4 => ?_)
  · skip
    refine mw_ldc dX6_smokes_21 cn_X6_58 ?_
    exact mw_iret dX6_smokes_23 rfl (by decide) (by decide) (by first | (rw [sSmokes, if_pos h4]; exact ⟨rfl, rfl, hA, z⟩) | (rw [sSmokes, if_neg h4]; exact ⟨rfl, rfl, hA, z⟩))
  · skip
    refine mw_aload_n dX6_smokes_7 rfl ?_
    refine mw_getr dX6_smokes_8 fl_X6_10 rfl (by assumption) (by assumption) ?_
    refine mw_geti dX6_smokes_11 fl_X6_118 rfl (by assumption) ?_
    rw [e4]
    refine mw_iload_n dX6_smokes_14 rfl ?_
    refine mw_ishr dX6_smokes_15 ?_
    refine mw_iconst (v := 1) dX6_smokes_16 (by decide) ?_
    refine mw_iand dX6_smokes_17 ?_
    refine mw_goto (tgt := 23) dX6_smokes_18 (by decide) ?_
    exact mw_iret dX6_smokes_23 rfl (by decide) (by decide) (by first | (rw [sSmokes, if_pos h4]; exact ⟨rfl, rfl, hA, z⟩) | (rw [sSmokes, if_neg h4]; exact ⟨rfl, rfl, hA, z⟩))
def sRule (A : Nat → Int32) (n : Nat) (w y : Int32) : Sp := if (w = 0 ∧ 0 ≤ y ∧ y ≤ 100) ∨ (w = 1 ∧ 0 ≤ y ∧ y ≤ 100) ∨ (w = 2 ∧ 0 ≤ y ∧ y ≤ 999) then (A (6 + w.toNatClampNeg), upd A (6 + w.toNatClampNeg) y, n) else (BADi, A, n)
theorem dX6_rule_0 : decode fX6_rule.2.1 0 = .ok (.ldc 58, 2) := by decide +kernel
theorem dX6_rule_2 : decode fX6_rule.2.1 2 = .ok (.istore_n 3, 1) := by decide +kernel
theorem dX6_rule_3 : decode fX6_rule.2.1 3 = .ok (.iload_n 1, 1) := by decide +kernel
theorem dX6_rule_4 : decode fX6_rule.2.1 4 = .ok (.ifCond .ne 32, 3) := by decide +kernel
theorem dX6_rule_7 : decode fX6_rule.2.1 7 = .ok (.iload_n 2, 1) := by decide +kernel
theorem dX6_rule_8 : decode fX6_rule.2.1 8 = .ok (.iconst 0, 1) := by decide +kernel
theorem dX6_rule_9 : decode fX6_rule.2.1 9 = .ok (.bipush 100, 2) := by decide +kernel
theorem dX6_rule_11 : decode fX6_rule.2.1 11 = .ok (.invokestatic 50, 3) := by decide +kernel
theorem dX6_rule_14 : decode fX6_rule.2.1 14 = .ok (.ifCond .eq 22, 3) := by decide +kernel
theorem dX6_rule_17 : decode fX6_rule.2.1 17 = .ok (.aload_n 0, 1) := by decide +kernel
theorem dX6_rule_18 : decode fX6_rule.2.1 18 = .ok (.getfield 10, 3) := by decide +kernel
theorem dX6_rule_21 : decode fX6_rule.2.1 21 = .ok (.getfield 121, 3) := by decide +kernel
theorem dX6_rule_24 : decode fX6_rule.2.1 24 = .ok (.istore_n 3, 1) := by decide +kernel
theorem dX6_rule_25 : decode fX6_rule.2.1 25 = .ok (.aload_n 0, 1) := by decide +kernel
theorem dX6_rule_26 : decode fX6_rule.2.1 26 = .ok (.getfield 10, 3) := by decide +kernel
theorem dX6_rule_29 : decode fX6_rule.2.1 29 = .ok (.iload_n 2, 1) := by decide +kernel
theorem dX6_rule_30 : decode fX6_rule.2.1 30 = .ok (.putfield 121, 3) := by decide +kernel
theorem dX6_rule_33 : decode fX6_rule.2.1 33 = .ok (.goto 69, 3) := by decide +kernel
theorem dX6_rule_36 : decode fX6_rule.2.1 36 = .ok (.iload_n 1, 1) := by decide +kernel
theorem dX6_rule_37 : decode fX6_rule.2.1 37 = .ok (.iconst 1, 1) := by decide +kernel
theorem dX6_rule_38 : decode fX6_rule.2.1 38 = .ok (.if_icmp .ne 32, 3) := by decide +kernel
theorem dX6_rule_41 : decode fX6_rule.2.1 41 = .ok (.iload_n 2, 1) := by decide +kernel
theorem dX6_rule_42 : decode fX6_rule.2.1 42 = .ok (.iconst 0, 1) := by decide +kernel
theorem dX6_rule_43 : decode fX6_rule.2.1 43 = .ok (.bipush 100, 2) := by decide +kernel
theorem dX6_rule_45 : decode fX6_rule.2.1 45 = .ok (.invokestatic 50, 3) := by decide +kernel
theorem dX6_rule_48 : decode fX6_rule.2.1 48 = .ok (.ifCond .eq 22, 3) := by decide +kernel
theorem dX6_rule_51 : decode fX6_rule.2.1 51 = .ok (.aload_n 0, 1) := by decide +kernel
theorem dX6_rule_52 : decode fX6_rule.2.1 52 = .ok (.getfield 10, 3) := by decide +kernel
theorem dX6_rule_55 : decode fX6_rule.2.1 55 = .ok (.getfield 124, 3) := by decide +kernel
theorem dX6_rule_58 : decode fX6_rule.2.1 58 = .ok (.istore_n 3, 1) := by decide +kernel
theorem dX6_rule_59 : decode fX6_rule.2.1 59 = .ok (.aload_n 0, 1) := by decide +kernel
theorem dX6_rule_60 : decode fX6_rule.2.1 60 = .ok (.getfield 10, 3) := by decide +kernel
theorem dX6_rule_63 : decode fX6_rule.2.1 63 = .ok (.iload_n 2, 1) := by decide +kernel
theorem dX6_rule_64 : decode fX6_rule.2.1 64 = .ok (.putfield 124, 3) := by decide +kernel
theorem dX6_rule_67 : decode fX6_rule.2.1 67 = .ok (.goto 35, 3) := by decide +kernel
theorem dX6_rule_70 : decode fX6_rule.2.1 70 = .ok (.iload_n 1, 1) := by decide +kernel
theorem dX6_rule_71 : decode fX6_rule.2.1 71 = .ok (.iconst 2, 1) := by decide +kernel
theorem dX6_rule_72 : decode fX6_rule.2.1 72 = .ok (.if_icmp .ne 30, 3) := by decide +kernel
theorem dX6_rule_75 : decode fX6_rule.2.1 75 = .ok (.iload_n 2, 1) := by decide +kernel
theorem dX6_rule_76 : decode fX6_rule.2.1 76 = .ok (.iconst 0, 1) := by decide +kernel
theorem dX6_rule_77 : decode fX6_rule.2.1 77 = .ok (.sipush 999, 3) := by decide +kernel
theorem dX6_rule_80 : decode fX6_rule.2.1 80 = .ok (.invokestatic 50, 3) := by decide +kernel
theorem dX6_rule_83 : decode fX6_rule.2.1 83 = .ok (.ifCond .eq 19, 3) := by decide +kernel
theorem dX6_rule_86 : decode fX6_rule.2.1 86 = .ok (.aload_n 0, 1) := by decide +kernel
theorem dX6_rule_87 : decode fX6_rule.2.1 87 = .ok (.getfield 10, 3) := by decide +kernel
theorem dX6_rule_90 : decode fX6_rule.2.1 90 = .ok (.getfield 127, 3) := by decide +kernel
theorem dX6_rule_93 : decode fX6_rule.2.1 93 = .ok (.istore_n 3, 1) := by decide +kernel
theorem dX6_rule_94 : decode fX6_rule.2.1 94 = .ok (.aload_n 0, 1) := by decide +kernel
theorem dX6_rule_95 : decode fX6_rule.2.1 95 = .ok (.getfield 10, 3) := by decide +kernel
theorem dX6_rule_98 : decode fX6_rule.2.1 98 = .ok (.iload_n 2, 1) := by decide +kernel
theorem dX6_rule_99 : decode fX6_rule.2.1 99 = .ok (.putfield 127, 3) := by decide +kernel
theorem dX6_rule_102 : decode fX6_rule.2.1 102 = .ok (.iload_n 3, 1) := by decide +kernel
theorem dX6_rule_103 : decode fX6_rule.2.1 103 = .ok (.ireturn, 1) := by decide +kernel
set_option maxRecDepth 100000 in
set_option maxHeartbeats 4000000 in
theorem ok_X6_rule {X : Xb} {S : Sg} {mi : Mem} {x n : Nat} {A : Nat → Int32} {w y : Int32} (hX : AsA S x) (hn8 : n ≤ 8) (hA : eqOn (26 + 5 * n) (tv mi (x + 1)) A) (hn : A 1 = nI n) : Ok 2 0 0 fX6_rule X [rf X x, .int w, .int y] S mi (PS S mi x (sRule A n w y)) := by
  refine Ok.go [some (rf X x), some (.int w), some (.int y), none] (by decide) (by simp [Value.category]) (Nat.le_of_ble_eq_true rfl) rfl ?_
  obtain ⟨k_x, ⟨r_x_now, t_now⟩, ⟨r_x_thought, t_thought⟩, ⟨r_x_image, t_image⟩, ⟨r_x_tape, t_tape⟩, ⟨r_x_sheets, k_x_sheets⟩, ⟨r_x_slots, k_x_slots⟩, ⟨r_x_waiting, k_x_waiting⟩, ⟨r_x_diff, k_x_diff⟩, a_sheets, a_slots⟩ := id hX
  obtain ⟨k_t, ⟨r_t_home, k_t_home⟩, ⟨r_t_price, k_t_price⟩, ⟨r_t_attics, k_t_attics⟩, ⟨r_t_texts, k_t_texts⟩, ⟨r_t_counting, k_t_counting⟩, ⟨r_t_names, k_t_names⟩, ⟨r_t_pile, k_t_pile⟩, ⟨r_t_views, k_t_views⟩, a_t⟩ := id t_now
  have z := Fr1.rf (x + 1) mi
  have e5 : mi (x + 1) 5 = A 6 := tv_0 (j := 6) hA (by decide) (by omega)
  have e6 : mi (x + 1) 6 = A 7 := tv_0 (j := 7) hA (by decide) (by omega)
  have e7 : mi (x + 1) 7 = A 8 := tv_0 (j := 8) hA (by decide) (by omega)
  have c0 : (0 : Int32).toNatClampNeg = 0 := by decide
  have c1 : (1 : Int32).toNatClampNeg = 1 := by decide
  have c2 : (2 : Int32).toNatClampNeg = 2 := by decide
  refine mw_ldc dX6_rule_0 cn_X6_58 ?_
  refine mw_istN 3 dX6_rule_2 rfl (by decide) ?_
  refine mw_iload_n dX6_rule_3 rfl ?_
  refine mw_if_ne (tgt := 36) dX6_rule_4 (by decide) (fun h4 => ?_) (fun h4 => ?_)
  · skip
    refine mw_iload_n dX6_rule_36 rfl ?_
    refine mw_iconst (v := 1) dX6_rule_37 (by decide) ?_
    refine mw_icmp_ne (tgt := 70) dX6_rule_38 (by decide) (fun h38 => ?_) (fun h38 => ?_)
    · skip
      refine mw_iload_n dX6_rule_70 rfl ?_
      refine mw_iconst (v := 2) dX6_rule_71 (by decide) ?_
      refine mw_icmp_ne (tgt := 102) dX6_rule_72 (by decide) (fun h72 => ?_) (fun h72 => ?_)
      · skip
        refine mw_iload_n dX6_rule_102 rfl ?_
        exact mw_iret dX6_rule_103 rfl (by decide) (by decide) (by
  rw [sRule]
  first
  | (subst h4; rw [if_pos (by grind), c0]; exact ⟨by rw [e5], rfl, tv_up0 (j := 6) (by decide) hA, z.up (by omega)⟩)
  | (subst h38; rw [if_pos (by grind), c1]; exact ⟨by rw [e6], rfl, tv_up0 (j := 7) (by decide) hA, z.up (by omega)⟩)
  | (subst h72; rw [if_pos (by grind), c2]; exact ⟨by rw [e7], rfl, tv_up0 (j := 8) (by decide) hA, z.up (by omega)⟩)
  | (rw [if_neg (by grind)]; exact ⟨rfl, rfl, hA, z⟩))
      · skip
        refine mw_iload_n dX6_rule_75 rfl ?_
        refine mw_iconst (v := 0) dX6_rule_76 (by decide) ?_
        refine mw_sipush (v := 999) dX6_rule_77 (by decide) ?_
        refine mw_cSI (g := fX6_within) dX6_rule_80 ml_X6_50 mfX6_within (ok_X6_within) rfl rfl (Nat.le_of_ble_eq_true rfl) ⟨by decide, by decide⟩ ⟨by decide, by decide⟩ ?_
        refine mw_if_eqB (tgt := 102) dX6_rule_83 (by decide) (fun h83 => ?_) (fun h83 => ?_)
        · skip
          refine mw_iload_n dX6_rule_102 rfl ?_
          exact mw_iret dX6_rule_103 rfl (by decide) (by decide) (by
  rw [sRule]
  first
  | (subst h4; rw [if_pos (by grind), c0]; exact ⟨by rw [e5], rfl, tv_up0 (j := 6) (by decide) hA, z.up (by omega)⟩)
  | (subst h38; rw [if_pos (by grind), c1]; exact ⟨by rw [e6], rfl, tv_up0 (j := 7) (by decide) hA, z.up (by omega)⟩)
  | (subst h72; rw [if_pos (by grind), c2]; exact ⟨by rw [e7], rfl, tv_up0 (j := 8) (by decide) hA, z.up (by omega)⟩)
  | (rw [if_neg (by grind)]; exact ⟨rfl, rfl, hA, z⟩))
        · skip
          refine mw_aload_n dX6_rule_86 rfl ?_
          refine mw_getr dX6_rule_87 fl_X6_10 rfl (by assumption) (by assumption) ?_
          refine mw_geti dX6_rule_90 fl_X6_127 rfl (by assumption) ?_
          refine mw_istN 3 dX6_rule_93 rfl (by decide) ?_
          refine mw_aload_n dX6_rule_94 rfl ?_
          refine mw_getr dX6_rule_95 fl_X6_10 rfl (by assumption) (by assumption) ?_
          refine mw_iload_n dX6_rule_98 rfl ?_
          refine mw_puti dX6_rule_99 fl_X6_127 ft_5_7 rfl (rfl) rfl (by assumption) ?_
          refine mw_iload_n dX6_rule_102 rfl ?_
          exact mw_iret dX6_rule_103 rfl (by decide) (by decide) (by
  rw [sRule]
  first
  | (subst h4; rw [if_pos (by grind), c0]; exact ⟨by rw [e5], rfl, tv_up0 (j := 6) (by decide) hA, z.up (by omega)⟩)
  | (subst h38; rw [if_pos (by grind), c1]; exact ⟨by rw [e6], rfl, tv_up0 (j := 7) (by decide) hA, z.up (by omega)⟩)
  | (subst h72; rw [if_pos (by grind), c2]; exact ⟨by rw [e7], rfl, tv_up0 (j := 8) (by decide) hA, z.up (by omega)⟩)
  | (rw [if_neg (by grind)]; exact ⟨rfl, rfl, hA, z⟩))
    · skip
      refine mw_iload_n dX6_rule_41 rfl ?_
      refine mw_iconst (v := 0) dX6_rule_42 (by decide) ?_
      refine mw_bipush (v := 100) dX6_rule_43 (by decide) ?_
      refine mw_cSI (g := fX6_within) dX6_rule_45 ml_X6_50 mfX6_within (ok_X6_within) rfl rfl (Nat.le_of_ble_eq_true rfl) ⟨by decide, by decide⟩ ⟨by decide, by decide⟩ ?_
      refine mw_if_eqB (tgt := 70) dX6_rule_48 (by decide) (fun h48 => ?_) (fun h48 => ?_)
      · skip
        refine mw_iload_n dX6_rule_70 rfl ?_
        refine mw_iconst (v := 2) dX6_rule_71 (by decide) ?_
        refine mw_icmp_ne (tgt := 102) dX6_rule_72 (by decide) (fun h72 => ?_) (fun h72 => ?_)
        · skip
          refine mw_iload_n dX6_rule_102 rfl ?_
          exact mw_iret dX6_rule_103 rfl (by decide) (by decide) (by
  rw [sRule]
  first
  | (subst h4; rw [if_pos (by grind), c0]; exact ⟨by rw [e5], rfl, tv_up0 (j := 6) (by decide) hA, z.up (by omega)⟩)
  | (subst h38; rw [if_pos (by grind), c1]; exact ⟨by rw [e6], rfl, tv_up0 (j := 7) (by decide) hA, z.up (by omega)⟩)
  | (subst h72; rw [if_pos (by grind), c2]; exact ⟨by rw [e7], rfl, tv_up0 (j := 8) (by decide) hA, z.up (by omega)⟩)
  | (rw [if_neg (by grind)]; exact ⟨rfl, rfl, hA, z⟩))
        · skip
          refine mw_iload_n dX6_rule_75 rfl ?_
          refine mw_iconst (v := 0) dX6_rule_76 (by decide) ?_
          refine mw_sipush (v := 999) dX6_rule_77 (by decide) ?_
          refine mw_cSI (g := fX6_within) dX6_rule_80 ml_X6_50 mfX6_within (ok_X6_within) rfl rfl (Nat.le_of_ble_eq_true rfl) ⟨by decide, by decide⟩ ⟨by decide, by decide⟩ ?_
          refine mw_if_eqB (tgt := 102) dX6_rule_83 (by decide) (fun h83 => ?_) (fun h83 => ?_)
          · skip
            refine mw_iload_n dX6_rule_102 rfl ?_
            exact mw_iret dX6_rule_103 rfl (by decide) (by decide) (by
  rw [sRule]
  first
  | (subst h4; rw [if_pos (by grind), c0]; exact ⟨by rw [e5], rfl, tv_up0 (j := 6) (by decide) hA, z.up (by omega)⟩)
  | (subst h38; rw [if_pos (by grind), c1]; exact ⟨by rw [e6], rfl, tv_up0 (j := 7) (by decide) hA, z.up (by omega)⟩)
  | (subst h72; rw [if_pos (by grind), c2]; exact ⟨by rw [e7], rfl, tv_up0 (j := 8) (by decide) hA, z.up (by omega)⟩)
  | (rw [if_neg (by grind)]; exact ⟨rfl, rfl, hA, z⟩))
          · skip
            refine mw_aload_n dX6_rule_86 rfl ?_
            refine mw_getr dX6_rule_87 fl_X6_10 rfl (by assumption) (by assumption) ?_
            refine mw_geti dX6_rule_90 fl_X6_127 rfl (by assumption) ?_
            refine mw_istN 3 dX6_rule_93 rfl (by decide) ?_
            refine mw_aload_n dX6_rule_94 rfl ?_
            refine mw_getr dX6_rule_95 fl_X6_10 rfl (by assumption) (by assumption) ?_
            refine mw_iload_n dX6_rule_98 rfl ?_
            refine mw_puti dX6_rule_99 fl_X6_127 ft_5_7 rfl (rfl) rfl (by assumption) ?_
            refine mw_iload_n dX6_rule_102 rfl ?_
            exact mw_iret dX6_rule_103 rfl (by decide) (by decide) (by
  rw [sRule]
  first
  | (subst h4; rw [if_pos (by grind), c0]; exact ⟨by rw [e5], rfl, tv_up0 (j := 6) (by decide) hA, z.up (by omega)⟩)
  | (subst h38; rw [if_pos (by grind), c1]; exact ⟨by rw [e6], rfl, tv_up0 (j := 7) (by decide) hA, z.up (by omega)⟩)
  | (subst h72; rw [if_pos (by grind), c2]; exact ⟨by rw [e7], rfl, tv_up0 (j := 8) (by decide) hA, z.up (by omega)⟩)
  | (rw [if_neg (by grind)]; exact ⟨rfl, rfl, hA, z⟩))
      · skip
        refine mw_aload_n dX6_rule_51 rfl ?_
        refine mw_getr dX6_rule_52 fl_X6_10 rfl (by assumption) (by assumption) ?_
        refine mw_geti dX6_rule_55 fl_X6_124 rfl (by assumption) ?_
        refine mw_istN 3 dX6_rule_58 rfl (by decide) ?_
        refine mw_aload_n dX6_rule_59 rfl ?_
        refine mw_getr dX6_rule_60 fl_X6_10 rfl (by assumption) (by assumption) ?_
        refine mw_iload_n dX6_rule_63 rfl ?_
        refine mw_puti dX6_rule_64 fl_X6_124 ft_5_6 rfl (rfl) rfl (by assumption) ?_
        refine mw_goto (tgt := 102) dX6_rule_67 (by decide) ?_
        refine mw_iload_n dX6_rule_102 rfl ?_
        exact mw_iret dX6_rule_103 rfl (by decide) (by decide) (by
  rw [sRule]
  first
  | (subst h4; rw [if_pos (by grind), c0]; exact ⟨by rw [e5], rfl, tv_up0 (j := 6) (by decide) hA, z.up (by omega)⟩)
  | (subst h38; rw [if_pos (by grind), c1]; exact ⟨by rw [e6], rfl, tv_up0 (j := 7) (by decide) hA, z.up (by omega)⟩)
  | (subst h72; rw [if_pos (by grind), c2]; exact ⟨by rw [e7], rfl, tv_up0 (j := 8) (by decide) hA, z.up (by omega)⟩)
  | (rw [if_neg (by grind)]; exact ⟨rfl, rfl, hA, z⟩))
  · skip
    refine mw_iload_n dX6_rule_7 rfl ?_
    refine mw_iconst (v := 0) dX6_rule_8 (by decide) ?_
    refine mw_bipush (v := 100) dX6_rule_9 (by decide) ?_
    refine mw_cSI (g := fX6_within) dX6_rule_11 ml_X6_50 mfX6_within (ok_X6_within) rfl rfl (Nat.le_of_ble_eq_true rfl) ⟨by decide, by decide⟩ ⟨by decide, by decide⟩ ?_
    refine mw_if_eqB (tgt := 36) dX6_rule_14 (by decide) (fun h14 => ?_) (fun h14 => ?_)
    · skip
      refine mw_iload_n dX6_rule_36 rfl ?_
      refine mw_iconst (v := 1) dX6_rule_37 (by decide) ?_
      refine mw_icmp_ne (tgt := 70) dX6_rule_38 (by decide) (fun h38 => ?_) (fun h38 => ?_)
      · skip
        refine mw_iload_n dX6_rule_70 rfl ?_
        refine mw_iconst (v := 2) dX6_rule_71 (by decide) ?_
        refine mw_icmp_ne (tgt := 102) dX6_rule_72 (by decide) (fun h72 => ?_) (fun h72 => ?_)
        · skip
          refine mw_iload_n dX6_rule_102 rfl ?_
          exact mw_iret dX6_rule_103 rfl (by decide) (by decide) (by
  rw [sRule]
  first
  | (subst h4; rw [if_pos (by grind), c0]; exact ⟨by rw [e5], rfl, tv_up0 (j := 6) (by decide) hA, z.up (by omega)⟩)
  | (subst h38; rw [if_pos (by grind), c1]; exact ⟨by rw [e6], rfl, tv_up0 (j := 7) (by decide) hA, z.up (by omega)⟩)
  | (subst h72; rw [if_pos (by grind), c2]; exact ⟨by rw [e7], rfl, tv_up0 (j := 8) (by decide) hA, z.up (by omega)⟩)
  | (rw [if_neg (by grind)]; exact ⟨rfl, rfl, hA, z⟩))
        · skip
          refine mw_iload_n dX6_rule_75 rfl ?_
          refine mw_iconst (v := 0) dX6_rule_76 (by decide) ?_
          refine mw_sipush (v := 999) dX6_rule_77 (by decide) ?_
          refine mw_cSI (g := fX6_within) dX6_rule_80 ml_X6_50 mfX6_within (ok_X6_within) rfl rfl (Nat.le_of_ble_eq_true rfl) ⟨by decide, by decide⟩ ⟨by decide, by decide⟩ ?_
          refine mw_if_eqB (tgt := 102) dX6_rule_83 (by decide) (fun h83 => ?_) (fun h83 => ?_)
          · skip
            refine mw_iload_n dX6_rule_102 rfl ?_
            exact mw_iret dX6_rule_103 rfl (by decide) (by decide) (by
  rw [sRule]
  first
  | (subst h4; rw [if_pos (by grind), c0]; exact ⟨by rw [e5], rfl, tv_up0 (j := 6) (by decide) hA, z.up (by omega)⟩)
  | (subst h38; rw [if_pos (by grind), c1]; exact ⟨by rw [e6], rfl, tv_up0 (j := 7) (by decide) hA, z.up (by omega)⟩)
  | (subst h72; rw [if_pos (by grind), c2]; exact ⟨by rw [e7], rfl, tv_up0 (j := 8) (by decide) hA, z.up (by omega)⟩)
  | (rw [if_neg (by grind)]; exact ⟨rfl, rfl, hA, z⟩))
          · skip
            refine mw_aload_n dX6_rule_86 rfl ?_
            refine mw_getr dX6_rule_87 fl_X6_10 rfl (by assumption) (by assumption) ?_
            refine mw_geti dX6_rule_90 fl_X6_127 rfl (by assumption) ?_
            refine mw_istN 3 dX6_rule_93 rfl (by decide) ?_
            refine mw_aload_n dX6_rule_94 rfl ?_
            refine mw_getr dX6_rule_95 fl_X6_10 rfl (by assumption) (by assumption) ?_
            refine mw_iload_n dX6_rule_98 rfl ?_
            refine mw_puti dX6_rule_99 fl_X6_127 ft_5_7 rfl (rfl) rfl (by assumption) ?_
            refine mw_iload_n dX6_rule_102 rfl ?_
            exact mw_iret dX6_rule_103 rfl (by decide) (by decide) (by
  rw [sRule]
  first
  | (subst h4; rw [if_pos (by grind), c0]; exact ⟨by rw [e5], rfl, tv_up0 (j := 6) (by decide) hA, z.up (by omega)⟩)
  | (subst h38; rw [if_pos (by grind), c1]; exact ⟨by rw [e6], rfl, tv_up0 (j := 7) (by decide) hA, z.up (by omega)⟩)
  | (subst h72; rw [if_pos (by grind), c2]; exact ⟨by rw [e7], rfl, tv_up0 (j := 8) (by decide) hA, z.up (by omega)⟩)
  | (rw [if_neg (by grind)]; exact ⟨rfl, rfl, hA, z⟩))
      · skip
        refine mw_iload_n dX6_rule_41 rfl ?_
        refine mw_iconst (v := 0) dX6_rule_42 (by decide) ?_
        refine mw_bipush (v := 100) dX6_rule_43 (by decide) ?_
        refine mw_cSI (g := fX6_within) dX6_rule_45 ml_X6_50 mfX6_within (ok_X6_within) rfl rfl (Nat.le_of_ble_eq_true rfl) ⟨by decide, by decide⟩ ⟨by decide, by decide⟩ ?_
        refine mw_if_eqB (tgt := 70) dX6_rule_48 (by decide) (fun h48 => ?_) (fun h48 => ?_)
        · skip
          refine mw_iload_n dX6_rule_70 rfl ?_
          refine mw_iconst (v := 2) dX6_rule_71 (by decide) ?_
          refine mw_icmp_ne (tgt := 102) dX6_rule_72 (by decide) (fun h72 => ?_) (fun h72 => ?_)
          · skip
            refine mw_iload_n dX6_rule_102 rfl ?_
            exact mw_iret dX6_rule_103 rfl (by decide) (by decide) (by
  rw [sRule]
  first
  | (subst h4; rw [if_pos (by grind), c0]; exact ⟨by rw [e5], rfl, tv_up0 (j := 6) (by decide) hA, z.up (by omega)⟩)
  | (subst h38; rw [if_pos (by grind), c1]; exact ⟨by rw [e6], rfl, tv_up0 (j := 7) (by decide) hA, z.up (by omega)⟩)
  | (subst h72; rw [if_pos (by grind), c2]; exact ⟨by rw [e7], rfl, tv_up0 (j := 8) (by decide) hA, z.up (by omega)⟩)
  | (rw [if_neg (by grind)]; exact ⟨rfl, rfl, hA, z⟩))
          · skip
            refine mw_iload_n dX6_rule_75 rfl ?_
            refine mw_iconst (v := 0) dX6_rule_76 (by decide) ?_
            refine mw_sipush (v := 999) dX6_rule_77 (by decide) ?_
            refine mw_cSI (g := fX6_within) dX6_rule_80 ml_X6_50 mfX6_within (ok_X6_within) rfl rfl (Nat.le_of_ble_eq_true rfl) ⟨by decide, by decide⟩ ⟨by decide, by decide⟩ ?_
            refine mw_if_eqB (tgt := 102) dX6_rule_83 (by decide) (fun h83 => ?_) (fun h83 => ?_)
            · skip
              refine mw_iload_n dX6_rule_102 rfl ?_
              exact mw_iret dX6_rule_103 rfl (by decide) (by decide) (by
  rw [sRule]
  first
  | (subst h4; rw [if_pos (by grind), c0]; exact ⟨by rw [e5], rfl, tv_up0 (j := 6) (by decide) hA, z.up (by omega)⟩)
  | (subst h38; rw [if_pos (by grind), c1]; exact ⟨by rw [e6], rfl, tv_up0 (j := 7) (by decide) hA, z.up (by omega)⟩)
  | (subst h72; rw [if_pos (by grind), c2]; exact ⟨by rw [e7], rfl, tv_up0 (j := 8) (by decide) hA, z.up (by omega)⟩)
  | (rw [if_neg (by grind)]; exact ⟨rfl, rfl, hA, z⟩))
            · skip
              refine mw_aload_n dX6_rule_86 rfl ?_
              refine mw_getr dX6_rule_87 fl_X6_10 rfl (by assumption) (by assumption) ?_
              refine mw_geti dX6_rule_90 fl_X6_127 rfl (by assumption) ?_
              refine mw_istN 3 dX6_rule_93 rfl (by decide) ?_
              refine mw_aload_n dX6_rule_94 rfl ?_
              refine mw_getr dX6_rule_95 fl_X6_10 rfl (by assumption) (by assumption) ?_
              refine mw_iload_n dX6_rule_98 rfl ?_
              refine mw_puti dX6_rule_99 fl_X6_127 ft_5_7 rfl (rfl) rfl (by assumption) ?_
              refine mw_iload_n dX6_rule_102 rfl ?_
              exact mw_iret dX6_rule_103 rfl (by decide) (by decide) (by
  rw [sRule]
  first
  | (subst h4; rw [if_pos (by grind), c0]; exact ⟨by rw [e5], rfl, tv_up0 (j := 6) (by decide) hA, z.up (by omega)⟩)
  | (subst h38; rw [if_pos (by grind), c1]; exact ⟨by rw [e6], rfl, tv_up0 (j := 7) (by decide) hA, z.up (by omega)⟩)
  | (subst h72; rw [if_pos (by grind), c2]; exact ⟨by rw [e7], rfl, tv_up0 (j := 8) (by decide) hA, z.up (by omega)⟩)
  | (rw [if_neg (by grind)]; exact ⟨rfl, rfl, hA, z⟩))
        · skip
          refine mw_aload_n dX6_rule_51 rfl ?_
          refine mw_getr dX6_rule_52 fl_X6_10 rfl (by assumption) (by assumption) ?_
          refine mw_geti dX6_rule_55 fl_X6_124 rfl (by assumption) ?_
          refine mw_istN 3 dX6_rule_58 rfl (by decide) ?_
          refine mw_aload_n dX6_rule_59 rfl ?_
          refine mw_getr dX6_rule_60 fl_X6_10 rfl (by assumption) (by assumption) ?_
          refine mw_iload_n dX6_rule_63 rfl ?_
          refine mw_puti dX6_rule_64 fl_X6_124 ft_5_6 rfl (rfl) rfl (by assumption) ?_
          refine mw_goto (tgt := 102) dX6_rule_67 (by decide) ?_
          refine mw_iload_n dX6_rule_102 rfl ?_
          exact mw_iret dX6_rule_103 rfl (by decide) (by decide) (by
  rw [sRule]
  first
  | (subst h4; rw [if_pos (by grind), c0]; exact ⟨by rw [e5], rfl, tv_up0 (j := 6) (by decide) hA, z.up (by omega)⟩)
  | (subst h38; rw [if_pos (by grind), c1]; exact ⟨by rw [e6], rfl, tv_up0 (j := 7) (by decide) hA, z.up (by omega)⟩)
  | (subst h72; rw [if_pos (by grind), c2]; exact ⟨by rw [e7], rfl, tv_up0 (j := 8) (by decide) hA, z.up (by omega)⟩)
  | (rw [if_neg (by grind)]; exact ⟨rfl, rfl, hA, z⟩))
    · skip
      refine mw_aload_n dX6_rule_17 rfl ?_
      refine mw_getr dX6_rule_18 fl_X6_10 rfl (by assumption) (by assumption) ?_
      refine mw_geti dX6_rule_21 fl_X6_121 rfl (by assumption) ?_
      refine mw_istN 3 dX6_rule_24 rfl (by decide) ?_
      refine mw_aload_n dX6_rule_25 rfl ?_
      refine mw_getr dX6_rule_26 fl_X6_10 rfl (by assumption) (by assumption) ?_
      refine mw_iload_n dX6_rule_29 rfl ?_
      refine mw_puti dX6_rule_30 fl_X6_121 ft_5_5 rfl (rfl) rfl (by assumption) ?_
      refine mw_goto (tgt := 102) dX6_rule_33 (by decide) ?_
      refine mw_iload_n dX6_rule_102 rfl ?_
      exact mw_iret dX6_rule_103 rfl (by decide) (by decide) (by
  rw [sRule]
  first
  | (subst h4; rw [if_pos (by grind), c0]; exact ⟨by rw [e5], rfl, tv_up0 (j := 6) (by decide) hA, z.up (by omega)⟩)
  | (subst h38; rw [if_pos (by grind), c1]; exact ⟨by rw [e6], rfl, tv_up0 (j := 7) (by decide) hA, z.up (by omega)⟩)
  | (subst h72; rw [if_pos (by grind), c2]; exact ⟨by rw [e7], rfl, tv_up0 (j := 8) (by decide) hA, z.up (by omega)⟩)
  | (rw [if_neg (by grind)]; exact ⟨rfl, rfl, hA, z⟩))
theorem dX6_seed_0 : decode fX6_seed.2.1 0 = .ok (.aload_n 0, 1) := by decide +kernel
theorem dX6_seed_1 : decode fX6_seed.2.1 1 = .ok (.getfield 10, 3) := by decide +kernel
theorem dX6_seed_4 : decode fX6_seed.2.1 4 = .ok (.getfield 142, 3) := by decide +kernel
theorem dX6_seed_7 : decode fX6_seed.2.1 7 = .ok (.istore_n 2, 1) := by decide +kernel
theorem dX6_seed_8 : decode fX6_seed.2.1 8 = .ok (.aload_n 0, 1) := by decide +kernel
theorem dX6_seed_9 : decode fX6_seed.2.1 9 = .ok (.getfield 10, 3) := by decide +kernel
theorem dX6_seed_12 : decode fX6_seed.2.1 12 = .ok (.iload_n 1, 1) := by decide +kernel
theorem dX6_seed_13 : decode fX6_seed.2.1 13 = .ok (.putfield 142, 3) := by decide +kernel
theorem dX6_seed_16 : decode fX6_seed.2.1 16 = .ok (.iload_n 2, 1) := by decide +kernel
theorem dX6_seed_17 : decode fX6_seed.2.1 17 = .ok (.ireturn, 1) := by decide +kernel
set_option maxRecDepth 100000 in
set_option maxHeartbeats 4000000 in
theorem ok_X6_seed {X : Xb} {S : Sg} {mi : Mem} {x n : Nat} {A : Nat → Int32} {v : Int32} (hX : AsA S x) (hn8 : n ≤ 8) (hA : eqOn (26 + 5 * n) (tv mi (x + 1)) A) (hn : A 1 = nI n) : Ok 2 0 0 fX6_seed X [rf X x, .int v] S mi (PS S mi x (A 0, upd A 0 v, n)) := by
  refine Ok.go [some (rf X x), some (.int v), none] (by decide) (by simp [Value.category]) (Nat.le_of_ble_eq_true rfl) rfl ?_
  obtain ⟨k_x, ⟨r_x_now, t_now⟩, ⟨r_x_thought, t_thought⟩, ⟨r_x_image, t_image⟩, ⟨r_x_tape, t_tape⟩, ⟨r_x_sheets, k_x_sheets⟩, ⟨r_x_slots, k_x_slots⟩, ⟨r_x_waiting, k_x_waiting⟩, ⟨r_x_diff, k_x_diff⟩, a_sheets, a_slots⟩ := id hX
  obtain ⟨k_t, ⟨r_t_home, k_t_home⟩, ⟨r_t_price, k_t_price⟩, ⟨r_t_attics, k_t_attics⟩, ⟨r_t_texts, k_t_texts⟩, ⟨r_t_counting, k_t_counting⟩, ⟨r_t_names, k_t_names⟩, ⟨r_t_pile, k_t_pile⟩, ⟨r_t_views, k_t_views⟩, a_t⟩ := id t_now
  have z := Fr1.rf (x + 1) mi
  have e0 : mi (x + 1) 11 = A 0 := tv_0 (j := 0) hA (by decide) (by omega)
  refine mw_aload_n dX6_seed_0 rfl ?_
  refine mw_getr dX6_seed_1 fl_X6_10 rfl (by assumption) (by assumption) ?_
  refine mw_geti dX6_seed_4 fl_X6_142 rfl (by assumption) ?_
  refine mw_istN 2 dX6_seed_7 rfl (by decide) ?_
  refine mw_aload_n dX6_seed_8 rfl ?_
  refine mw_getr dX6_seed_9 fl_X6_10 rfl (by assumption) (by assumption) ?_
  refine mw_iload_n dX6_seed_12 rfl ?_
  refine mw_puti dX6_seed_13 fl_X6_142 ft_5_11 rfl (rfl) rfl (by assumption) ?_
  refine mw_iload_n dX6_seed_16 rfl ?_
  exact mw_iret dX6_seed_17 rfl (by decide) (by decide) (⟨by rw [e0], rfl, tv_up0 (j := 0) (by decide) hA, z.up (by omega)⟩)
/-- attics drawn, one behind another -/
def dealTo (A : Nat → Int32) (n : Nat) : Nat → Nat → Int32
  | 0 => A
  | k + 1 => drawF (dealTo A n k) (n + k)
theorem dealTo_1 {A : Nat → Int32} {n : Nat} (h : A 1 = nI n) : ∀ k, dealTo A n k 1 = nI (n + k)
  | 0 => h
  | k + 1 => by simp only [dealTo, drawF, comesF, upd]; simp [Nat.add_assoc]
theorem in18 {v : Int32} (h : 1 ≤ v ∧ v ≤ 8) : ∃ k, 1 ≤ k ∧ k ≤ 8 ∧ v = nI k := by
  obtain ⟨j, hj, rfl⟩ := nI_of (Int32.not_lt.mpr (Int32.le_trans (show (0 : Int32) ≤ 1 by decide) h.1))
  exact ⟨j, by have := (nI_leI (a := 1) (by decide) hj).mp h.1; omega, by have := (nI_leI (b := 8) hj (by decide)).mp h.2; omega, rfl⟩
def sDeal (A : Nat → Int32) (n : Nat) (v : Int32) : Sp := if 1 ≤ v ∧ v ≤ 8 then (nI (min v.toNatClampNeg (8 - n)), dealTo A n (min v.toNatClampNeg (8 - n)), n + min v.toNatClampNeg (8 - n)) else (BADi, A, n)
theorem dX6_deal_0 : decode fX6_deal.2.1 0 = .ok (.iload_n 1, 1) := by decide +kernel
theorem dX6_deal_1 : decode fX6_deal.2.1 1 = .ok (.iconst 1, 1) := by decide +kernel
theorem dX6_deal_2 : decode fX6_deal.2.1 2 = .ok (.bipush 8, 2) := by decide +kernel
theorem dX6_deal_4 : decode fX6_deal.2.1 4 = .ok (.invokestatic 50, 3) := by decide +kernel
theorem dX6_deal_7 : decode fX6_deal.2.1 7 = .ok (.ifCond .ne 6, 3) := by decide +kernel
theorem dX6_deal_10 : decode fX6_deal.2.1 10 = .ok (.ldc 58, 2) := by decide +kernel
theorem dX6_deal_12 : decode fX6_deal.2.1 12 = .ok (.ireturn, 1) := by decide +kernel
theorem dX6_deal_13 : decode fX6_deal.2.1 13 = .ok (.iload_n 1, 1) := by decide +kernel
theorem dX6_deal_14 : decode fX6_deal.2.1 14 = .ok (.bipush 8, 2) := by decide +kernel
theorem dX6_deal_16 : decode fX6_deal.2.1 16 = .ok (.aload_n 0, 1) := by decide +kernel
theorem dX6_deal_17 : decode fX6_deal.2.1 17 = .ok (.getfield 10, 3) := by decide +kernel
theorem dX6_deal_20 : decode fX6_deal.2.1 20 = .ok (.getfield 130, 3) := by decide +kernel
theorem dX6_deal_23 : decode fX6_deal.2.1 23 = .ok (.isub, 1) := by decide +kernel
theorem dX6_deal_24 : decode fX6_deal.2.1 24 = .ok (.invokestatic 133, 3) := by decide +kernel
theorem dX6_deal_27 : decode fX6_deal.2.1 27 = .ok (.istore_n 2, 1) := by decide +kernel
theorem dX6_deal_28 : decode fX6_deal.2.1 28 = .ok (.iconst 0, 1) := by decide +kernel
theorem dX6_deal_29 : decode fX6_deal.2.1 29 = .ok (.istore_n 3, 1) := by decide +kernel
theorem dX6_deal_30 : decode fX6_deal.2.1 30 = .ok (.iload_n 3, 1) := by decide +kernel
theorem dX6_deal_31 : decode fX6_deal.2.1 31 = .ok (.iload_n 2, 1) := by decide +kernel
theorem dX6_deal_32 : decode fX6_deal.2.1 32 = .ok (.if_icmp .ge 16, 3) := by decide +kernel
theorem dX6_deal_35 : decode fX6_deal.2.1 35 = .ok (.aload_n 0, 1) := by decide +kernel
theorem dX6_deal_36 : decode fX6_deal.2.1 36 = .ok (.getfield 10, 3) := by decide +kernel
theorem dX6_deal_39 : decode fX6_deal.2.1 39 = .ok (.invokevirtual 139, 3) := by decide +kernel
theorem dX6_deal_42 : decode fX6_deal.2.1 42 = .ok (.iinc 3 1, 3) := by decide +kernel
theorem dX6_deal_45 : decode fX6_deal.2.1 45 = .ok (.goto (-15), 3) := by decide +kernel
theorem dX6_deal_48 : decode fX6_deal.2.1 48 = .ok (.iload_n 2, 1) := by decide +kernel
theorem dX6_deal_49 : decode fX6_deal.2.1 49 = .ok (.ireturn, 1) := by decide +kernel
set_option maxRecDepth 100000 in
set_option maxHeartbeats 4000000 in
theorem ok_X6_deal {X : Xb} {S : Sg} {mi : Mem} {x n : Nat} {A : Nat → Int32} {v : Int32} (hX : AsA S x) (hn8 : n ≤ 8) (hA : eqOn (26 + 5 * n) (tv mi (x + 1)) A) (hn : A 1 = nI n) : Ok 3 0 0 fX6_deal X [rf X x, .int v] S mi (PS S mi x (sDeal A n v)) := by
  refine Ok.go [some (rf X x), some (.int v), none, none] (by decide) (by simp [Value.category]) (Nat.le_of_ble_eq_true rfl) rfl ?_
  obtain ⟨k_x, ⟨r_x_now, t_now⟩, ⟨r_x_thought, t_thought⟩, ⟨r_x_image, t_image⟩, ⟨r_x_tape, t_tape⟩, ⟨r_x_sheets, k_x_sheets⟩, ⟨r_x_slots, k_x_slots⟩, ⟨r_x_waiting, k_x_waiting⟩, ⟨r_x_diff, k_x_diff⟩, a_sheets, a_slots⟩ := id hX
  obtain ⟨k_t, ⟨r_t_home, k_t_home⟩, ⟨r_t_price, k_t_price⟩, ⟨r_t_attics, k_t_attics⟩, ⟨r_t_texts, k_t_texts⟩, ⟨r_t_counting, k_t_counting⟩, ⟨r_t_names, k_t_names⟩, ⟨r_t_pile, k_t_pile⟩, ⟨r_t_views, k_t_views⟩, a_t⟩ := id t_now
  have z := Fr1.rf (x + 1) mi
  have ec : mi (x + 1) 3 = nI n := by rw [show (3 : Nat) = tvF 1 from rfl, tv_0 hA (by decide) (by omega), hn]
  have loop : ∀ q c, c ≤ q → c = min q (8 - n) → 1 ≤ q → q ≤ 8 → v = nI q → MW X fX6_deal (rmOf 3 0 0) 0 0 30 [some (rf X x), some (.int (nI q)), some (.int (nI c)), some (.int (nI 0))] [] S mi (mQ X 0 0 (PS S mi x (sDeal A n v))) := by
    intro q c hcq hc h1 h8 hv
    have ecl : v.toNatClampNeg = q := by rw [hv, nI_clamp (by omega)]
    have hvr : 1 ≤ v ∧ v ≤ 8 := by rw [hv]; exact ⟨nI_le (a := 1) h1 (by omega), nI_le (b := 8) h8 (by decide)⟩
    have lp := mw_dn (P := fun k => ∀ m, eqOn (26 + 5 * (n + k)) (tv m (x + 1)) (dealTo A n k) → Fr1 (x + 1) mi m → MW X fX6_deal (rmOf 3 0 0) 0 0 30 [some (rf X x), some (.int (nI q)), some (.int (nI c)), some (.int (nI k))] [] S m (mQ X 0 0 (PS S mi x (sDeal A n v)))) c (by
      intro m h2 hF
      refine mw_iload_n dX6_deal_30 rfl ?_
      refine mw_iload_n dX6_deal_31 rfl ?_
      refine mw_icmp_ge (tgt := 48) dX6_deal_32 (by decide) (fun h32 => ?_) (fun h32 => ?_)
      · skip
        refine mw_iload_n dX6_deal_48 rfl ?_
        exact mw_iret dX6_deal_49 rfl (by decide) (by decide) (by rw [sDeal, if_pos hvr, ecl, ← hc]; exact ⟨rfl, rfl, h2, hF⟩)
      · skip
        exact absurd (Int32.le_refl _) h32) (fun k hk ih => by
      intro m h2 hF
      refine mw_iload_n dX6_deal_30 rfl ?_
      refine mw_iload_n dX6_deal_31 rfl ?_
      refine mw_icmp_ge (tgt := 48) dX6_deal_32 (by decide) (fun h32 => ?_) (fun h32 => ?_)
      · skip
        exact absurd h32 (nI_ge hk (by omega))
      · skip
        refine mw_aload_n dX6_deal_35 rfl ?_
        refine mw_getr dX6_deal_36 fl_X6_10 rfl (by assumption) (by assumption) ?_
        refine mw_callV (g := fX5_drawAttic) dX6_deal_39 ml_X6_139 mfX5_drawAttic (ok_X5_drawAttic (n := n + k) t_now (by omega) h2 (dealTo_1 hn k)) (by assumption) rfl rfl (Nat.le_of_ble_eq_true rfl) ⟨by decide, by decide⟩ ⟨by decide, by decide⟩ (fun r S2 mi2 hp => ?_)
        obtain ⟨rfl, e1, e2, e3⟩ := hp
        rw [e1]
        refine mw_iincK (k := k) dX6_deal_42 rfl rfl (by decide) ?_
        refine mw_goto (tgt := 30) dX6_deal_45 (by decide) ?_
        exact MW.sub (by simp [lsub]) (ih _ e2 (hF.tr (Fr1.of e3))))
    exact lp mi hA z
  refine mw_iload_n dX6_deal_0 rfl ?_
  refine mw_iconst (v := 1) dX6_deal_1 (by decide) ?_
  refine mw_bipush (v := 8) dX6_deal_2 (by decide) ?_
  refine mw_cSI (g := fX6_within) dX6_deal_4 ml_X6_50 mfX6_within (ok_X6_within) rfl rfl (Nat.le_of_ble_eq_true rfl) ⟨by decide, by decide⟩ ⟨by decide, by decide⟩ ?_
  refine mw_if_neB (tgt := 13) dX6_deal_7 (by decide) (fun h7 => ?_) (fun h7 => ?_)
  · skip
    obtain ⟨q, q1, q8, rfl⟩ := in18 h7
    refine mw_iload_n dX6_deal_13 rfl ?_
    refine mw_bipush (v := 8) dX6_deal_14 (by decide) ?_
    refine mw_aload_n dX6_deal_16 rfl ?_
    refine mw_getr dX6_deal_17 fl_X6_10 rfl (by assumption) (by assumption) ?_
    refine mw_geti dX6_deal_20 fl_X6_130 rfl (by assumption) ?_
    rw [ec]
    refine mw_isub dX6_deal_23 ?_
    rw [show (8 : Int32) - nI n = nI (8 - n) from pk_sub (a := 8) hn8]
    refine mw_mmin dX6_deal_24 ml_X6_133 (Nat.le_of_ble_eq_true rfl) ⟨by decide, by decide⟩ ⟨by decide, by decide⟩ ?_
    refine mw_istN 2 dX6_deal_27 rfl (by decide) ?_
    refine mw_iconst (v := 0) dX6_deal_28 (by decide) ?_
    refine mw_istN 3 dX6_deal_29 rfl (by decide) ?_
    refine MW.sub ?_ (loop q (min q (8 - n)) (by omega) rfl q1 q8 rfl)
    have e : (if nI (8 - n) < nI q then nI (8 - n) else nI q) = nI (min q (8 - n)) := by
      by_cases c : 8 - n < q
      · rw [if_pos (nI_lt c (by omega))]; congr 1; omega
      · rw [if_neg (nI_nlt (by omega) (by omega))]; congr 1; omega
    simp [lsub, nI_0, e]
  · skip
    refine mw_ldc dX6_deal_10 cn_X6_58 ?_
    exact mw_iret dX6_deal_12 rfl (by decide) (by decide) (by rw [sDeal, if_neg h7]; exact ⟨rfl, rfl, hA, z⟩)
def sTown (lw : LawT) (A : Nat → Int32) (n : Nat) (w : Int32) : Int32 := if w = 0 then A 3 else if w = 1 then fld (fun s i => s + A (26 + 5 * i + 4)) 0 n else if w = 2 then A 4 else if w = 3 then jBits (A 9) else if w = 4 then fld (fun s i => s + A (26 + 5 * i + 3)) 0 n else if w = 5 then 255 &&& (fld (fun s i => s ||| rSee A i) 0 n ^^^ (-1)) else if w = 6 then fld (fun s i => s + rRent lw A i) 0 n else BADi
theorem dX6_town_0 : decode fX6_town.2.1 0 = .ok (.iload_n 1, 1) := by decide +kernel
theorem dX6_town_1 : decode fX6_town.2.1 1 = .ok (.tableswitch 102 0 6 #[43, 51, 59, 67, 78, 86, 94], 43) := by decide +kernel
theorem dX6_town_44 : decode fX6_town.2.1 44 = .ok (.aload_n 0, 1) := by decide +kernel
theorem dX6_town_45 : decode fX6_town.2.1 45 = .ok (.getfield 10, 3) := by decide +kernel
theorem dX6_town_48 : decode fX6_town.2.1 48 = .ok (.getfield 145, 3) := by decide +kernel
theorem dX6_town_51 : decode fX6_town.2.1 51 = .ok (.ireturn, 1) := by decide +kernel
theorem dX6_town_52 : decode fX6_town.2.1 52 = .ok (.aload_n 0, 1) := by decide +kernel
theorem dX6_town_53 : decode fX6_town.2.1 53 = .ok (.getfield 10, 3) := by decide +kernel
theorem dX6_town_56 : decode fX6_town.2.1 56 = .ok (.invokevirtual 154, 3) := by decide +kernel
theorem dX6_town_59 : decode fX6_town.2.1 59 = .ok (.ireturn, 1) := by decide +kernel
theorem dX6_town_60 : decode fX6_town.2.1 60 = .ok (.aload_n 0, 1) := by decide +kernel
theorem dX6_town_61 : decode fX6_town.2.1 61 = .ok (.getfield 10, 3) := by decide +kernel
theorem dX6_town_64 : decode fX6_town.2.1 64 = .ok (.getfield 158, 3) := by decide +kernel
theorem dX6_town_67 : decode fX6_town.2.1 67 = .ok (.ireturn, 1) := by decide +kernel
theorem dX6_town_68 : decode fX6_town.2.1 68 = .ok (.aload_n 0, 1) := by decide +kernel
theorem dX6_town_69 : decode fX6_town.2.1 69 = .ok (.getfield 10, 3) := by decide +kernel
theorem dX6_town_72 : decode fX6_town.2.1 72 = .ok (.getfield 118, 3) := by decide +kernel
theorem dX6_town_75 : decode fX6_town.2.1 75 = .ok (.invokestatic 161, 3) := by decide +kernel
theorem dX6_town_78 : decode fX6_town.2.1 78 = .ok (.ireturn, 1) := by decide +kernel
theorem dX6_town_79 : decode fX6_town.2.1 79 = .ok (.aload_n 0, 1) := by decide +kernel
theorem dX6_town_80 : decode fX6_town.2.1 80 = .ok (.getfield 10, 3) := by decide +kernel
theorem dX6_town_83 : decode fX6_town.2.1 83 = .ok (.invokevirtual 166, 3) := by decide +kernel
theorem dX6_town_86 : decode fX6_town.2.1 86 = .ok (.ireturn, 1) := by decide +kernel
theorem dX6_town_87 : decode fX6_town.2.1 87 = .ok (.aload_n 0, 1) := by decide +kernel
theorem dX6_town_88 : decode fX6_town.2.1 88 = .ok (.getfield 10, 3) := by decide +kernel
theorem dX6_town_91 : decode fX6_town.2.1 91 = .ok (.invokevirtual 169, 3) := by decide +kernel
theorem dX6_town_94 : decode fX6_town.2.1 94 = .ok (.ireturn, 1) := by decide +kernel
theorem dX6_town_95 : decode fX6_town.2.1 95 = .ok (.aload_n 0, 1) := by decide +kernel
theorem dX6_town_96 : decode fX6_town.2.1 96 = .ok (.getfield 10, 3) := by decide +kernel
theorem dX6_town_99 : decode fX6_town.2.1 99 = .ok (.invokevirtual 172, 3) := by decide +kernel
theorem dX6_town_102 : decode fX6_town.2.1 102 = .ok (.ireturn, 1) := by decide +kernel
theorem dX6_town_103 : decode fX6_town.2.1 103 = .ok (.ldc 58, 2) := by decide +kernel
theorem dX6_town_105 : decode fX6_town.2.1 105 = .ok (.ireturn, 1) := by decide +kernel
set_option maxRecDepth 100000 in
set_option maxHeartbeats 4000000 in
theorem ok_X6_town {X : Xb} {S : Sg} {mi : Mem} {x n : Nat} {A : Nat → Int32} {lw : LawT} {w : Int32} (hX : AsA S x) (hn8 : n ≤ 8) (hA : eqOn (26 + 5 * n) (tv mi (x + 1)) A) (hn : A 1 = nI n) (hx : TxOk S mi (x + 1) 0) (hl : lwC S mi (x + 1) 0 = lw) : Ok 5 0 0 fX6_town X [rf X x, .int w] S mi (PS S mi x (sTown lw A n w, A, n)) := by
  refine Ok.go [some (rf X x), some (.int w)] (by decide) (by simp [Value.category]) (Nat.le_of_ble_eq_true rfl) rfl ?_
  obtain ⟨k_x, ⟨r_x_now, t_now⟩, ⟨r_x_thought, t_thought⟩, ⟨r_x_image, t_image⟩, ⟨r_x_tape, t_tape⟩, ⟨r_x_sheets, k_x_sheets⟩, ⟨r_x_slots, k_x_slots⟩, ⟨r_x_waiting, k_x_waiting⟩, ⟨r_x_diff, k_x_diff⟩, a_sheets, a_slots⟩ := id hX
  obtain ⟨k_t, ⟨r_t_home, k_t_home⟩, ⟨r_t_price, k_t_price⟩, ⟨r_t_attics, k_t_attics⟩, ⟨r_t_texts, k_t_texts⟩, ⟨r_t_counting, k_t_counting⟩, ⟨r_t_names, k_t_names⟩, ⟨r_t_pile, k_t_pile⟩, ⟨r_t_views, k_t_views⟩, a_t⟩ := id t_now
  have z := Fr1.rf (x + 1) mi
  have ec : mi (x + 1) 3 = nI n := by rw [show (3 : Nat) = tvF 1 from rfl, tv_0 hA (by decide) (by omega), hn]
  have e3 : mi (x + 1) 8 = A 3 := tv_0 (j := 3) hA (by decide) (by omega)
  have e4 : mi (x + 1) 9 = A 4 := tv_0 (j := 4) hA (by decide) (by omega)
  have e9 : mi (x + 1) 4 = A 9 := tv_0 (j := 9) hA (by decide) (by omega)
  refine mw_iload_n dX6_town_0 rfl ?_
  refine mw_ts1 dX6_town_1 (by decide) 0 44 (by decide) (fun h1_0 => ?_) (fun h1_0 => ?_)
  · skip
    refine mw_aload_n dX6_town_44 rfl ?_
    refine mw_getr dX6_town_45 fl_X6_10 rfl (by assumption) (by assumption) ?_
    refine mw_geti dX6_town_48 fl_X6_145 rfl (by assumption) ?_
    exact mw_iret dX6_town_51 rfl (by decide) (by decide) (⟨by simp only [sTown, *]; simp, rfl, hA, z⟩)
  refine mw_ts1 dX6_town_1 (by decide) 1 52 (by decide) (fun h1_1 => ?_) (fun h1_1 => ?_)
  · skip
    refine mw_aload_n dX6_town_52 rfl ?_
    refine mw_getr dX6_town_53 fl_X6_10 rfl (by assumption) (by assumption) ?_
    refine mw_cVI (g := fX5_owedByAll) dX6_town_56 ml_X6_154 mfX5_owedByAll (ok_X5_owedByAll t_now ec hn8) (by assumption) rfl rfl (Nat.le_of_ble_eq_true rfl) ⟨by decide, by decide⟩ ⟨by decide, by decide⟩ ?_
    exact mw_iret dX6_town_59 rfl (by decide) (by decide) (⟨by rw [fld_congr n (fun s k hk => by rw [tv_A (a := k) (f := 4) hA (by decide) (by omega)])]; simp only [sTown, h1_1]; simp, rfl, hA, z⟩)
  refine mw_ts1 dX6_town_1 (by decide) 2 60 (by decide) (fun h1_2 => ?_) (fun h1_2 => ?_)
  · skip
    refine mw_aload_n dX6_town_60 rfl ?_
    refine mw_getr dX6_town_61 fl_X6_10 rfl (by assumption) (by assumption) ?_
    refine mw_geti dX6_town_64 fl_X6_158 rfl (by assumption) ?_
    exact mw_iret dX6_town_67 rfl (by decide) (by decide) (⟨by simp only [sTown, *]; simp, rfl, hA, z⟩)
  refine mw_ts1 dX6_town_1 (by decide) 3 68 (by decide) (fun h1_3 => ?_) (fun h1_3 => ?_)
  · skip
    refine mw_aload_n dX6_town_68 rfl ?_
    refine mw_getr dX6_town_69 fl_X6_10 rfl (by assumption) (by assumption) ?_
    refine mw_geti dX6_town_72 fl_X6_118 rfl (by assumption) ?_
    refine mw_cSI (g := fJ6_bitCount_0f7a4) dX6_town_75 ml_X6_161 mfJ6_bitCount_0f7a4 (ok_J6_bitCount_0f7a4) rfl rfl (Nat.le_of_ble_eq_true rfl) ⟨by decide, by decide⟩ ⟨by decide, by decide⟩ ?_
    exact mw_iret dX6_town_78 rfl (by decide) (by decide) (⟨by simp only [sTown, *]; simp, rfl, hA, z⟩)
  refine mw_ts1 dX6_town_1 (by decide) 4 79 (by decide) (fun h1_4 => ?_) (fun h1_4 => ?_)
  · skip
    refine mw_aload_n dX6_town_79 rfl ?_
    refine mw_getr dX6_town_80 fl_X6_10 rfl (by assumption) (by assumption) ?_
    refine mw_cVI (g := fX5_coinOfAll) dX6_town_83 ml_X6_166 mfX5_coinOfAll (ok_X5_coinOfAll t_now ec hn8) (by assumption) rfl rfl (Nat.le_of_ble_eq_true rfl) ⟨by decide, by decide⟩ ⟨by decide, by decide⟩ ?_
    exact mw_iret dX6_town_86 rfl (by decide) (by decide) (⟨by rw [fld_congr n (fun s k hk => by rw [tv_A (a := k) (f := 3) hA (by decide) (by omega)])]; simp only [sTown, h1_4]; simp, rfl, hA, z⟩)
  refine mw_ts1 dX6_town_1 (by decide) 5 87 (by decide) (fun h1_5 => ?_) (fun h1_5 => ?_)
  · skip
    refine mw_aload_n dX6_town_87 rfl ?_
    refine mw_getr dX6_town_88 fl_X6_10 rfl (by assumption) (by assumption) ?_
    refine mw_cVI (g := fX5_dark) dX6_town_91 ml_X6_169 mfX5_dark (ok_X5_dark t_now ec hn8) (by assumption) rfl rfl (Nat.le_of_ble_eq_true rfl) ⟨by decide, by decide⟩ ⟨by decide, by decide⟩ ?_
    exact mw_iret dX6_town_94 rfl (by decide) (by decide) (⟨by rw [fld_congr n (fun s k hk => by rw [show cSeesA mi (x + 1) k = rSee A k from rSee_of hA (by omega)])]; simp only [sTown, h1_5]; simp, rfl, hA, z⟩)
  refine mw_ts1 dX6_town_1 (by decide) 6 95 (by decide) (fun h1_6 => ?_) (fun h1_6 => ?_)
  · skip
    refine mw_aload_n dX6_town_95 rfl ?_
    refine mw_getr dX6_town_96 fl_X6_10 rfl (by assumption) (by assumption) ?_
    refine mw_callV (g := fX5_rentOfAll) dX6_town_99 ml_X6_172 mfX5_rentOfAll (ok_X5_rentOfAll t_now hn8 hA hn hx hl) (by assumption) rfl rfl (Nat.le_of_ble_eq_true rfl) ⟨by decide, by decide⟩ ⟨by decide, by decide⟩ (fun r S2 mi2 hp => ?_)
    obtain ⟨rfl, e1, hs⟩ := hp
    rw [e1]
    exact mw_iret dX6_town_102 rfl (by decide) (by decide) (⟨by simp only [sTown, h1_6]; simp, rfl, tv_scr hs hA, Fr1.of (Frt.scr hs)⟩)
  refine mw_ts0 dX6_town_1 (by decide) 103 (by decide) (by have e0 := ne_toI (n := 0) (by decide) h1_0; have e1 := ne_toI (n := 1) (by decide) h1_1; have e2 := ne_toI (n := 2) (by decide) h1_2; have e3 := ne_toI (n := 3) (by decide) h1_3; have e4 := ne_toI (n := 4) (by decide) h1_4; have e5 := ne_toI (n := 5) (by decide) h1_5; have e6 := ne_toI (n := 6) (by decide) h1_6; omega) ?_
  refine mw_ldc dX6_town_103 cn_X6_58 ?_
  exact mw_iret dX6_town_105 rfl (by decide) (by decide) (⟨by simp only [sTown, *]; simp, rfl, hA, z⟩)
theorem dX6_cover_0 : decode fX6_cover.2.1 0 = .ok (.iload_n 1, 1) := by decide +kernel
theorem dX6_cover_1 : decode fX6_cover.2.1 1 = .ok (.iconst 0, 1) := by decide +kernel
theorem dX6_cover_2 : decode fX6_cover.2.1 2 = .ok (.sipush 255, 3) := by decide +kernel
theorem dX6_cover_5 : decode fX6_cover.2.1 5 = .ok (.invokestatic 50, 3) := by decide +kernel
theorem dX6_cover_8 : decode fX6_cover.2.1 8 = .ok (.ifCond .ne 6, 3) := by decide +kernel
theorem dX6_cover_11 : decode fX6_cover.2.1 11 = .ok (.ldc 58, 2) := by decide +kernel
theorem dX6_cover_13 : decode fX6_cover.2.1 13 = .ok (.ireturn, 1) := by decide +kernel
theorem dX6_cover_14 : decode fX6_cover.2.1 14 = .ok (.aload_n 0, 1) := by decide +kernel
theorem dX6_cover_15 : decode fX6_cover.2.1 15 = .ok (.getfield 10, 3) := by decide +kernel
theorem dX6_cover_18 : decode fX6_cover.2.1 18 = .ok (.iload_n 1, 1) := by decide +kernel
theorem dX6_cover_19 : decode fX6_cover.2.1 19 = .ok (.invokevirtual 175, 3) := by decide +kernel
theorem dX6_cover_22 : decode fX6_cover.2.1 22 = .ok (.ireturn, 1) := by decide +kernel
def sCover (A : Nat → Int32) (n : Nat) (v : Int32) : Int32 := if 0 ≤ v ∧ v ≤ 255 then (covC (fun i => rSee A i) n v (2 ^ n)).1 else BADi
theorem covC_congr {f g : Nat → Int32} {n : Nat} {v : Int32} (h : ∀ i, i < n → f i = g i) : ∀ s, covC f n v s = covC g n v s
  | 0 => rfl
  | s + 1 => by simp only [covC]; rw [covC_congr h s, viewSet_congr h]
set_option maxRecDepth 100000 in
set_option maxHeartbeats 4000000 in
theorem ok_X6_cover {X : Xb} {S : Sg} {mi : Mem} {x n : Nat} {A : Nat → Int32} {v : Int32} (hX : AsA S x) (hn8 : n ≤ 8) (hA : eqOn (26 + 5 * n) (tv mi (x + 1)) A) (hn : A 1 = nI n) : Ok 4 0 0 fX6_cover X [rf X x, .int v] S mi (PS S mi x (sCover A n v, A, n)) := by
  refine Ok.go [some (rf X x), some (.int v)] (by decide) (by simp [Value.category]) (Nat.le_of_ble_eq_true rfl) rfl ?_
  obtain ⟨k_x, ⟨r_x_now, t_now⟩, ⟨r_x_thought, t_thought⟩, ⟨r_x_image, t_image⟩, ⟨r_x_tape, t_tape⟩, ⟨r_x_sheets, k_x_sheets⟩, ⟨r_x_slots, k_x_slots⟩, ⟨r_x_waiting, k_x_waiting⟩, ⟨r_x_diff, k_x_diff⟩, a_sheets, a_slots⟩ := id hX
  obtain ⟨k_t, ⟨r_t_home, k_t_home⟩, ⟨r_t_price, k_t_price⟩, ⟨r_t_attics, k_t_attics⟩, ⟨r_t_texts, k_t_texts⟩, ⟨r_t_counting, k_t_counting⟩, ⟨r_t_names, k_t_names⟩, ⟨r_t_pile, k_t_pile⟩, ⟨r_t_views, k_t_views⟩, a_t⟩ := id t_now
  have z := Fr1.rf (x + 1) mi
  have ec : mi (x + 1) 3 = nI n := by rw [show (3 : Nat) = tvF 1 from rfl, tv_0 hA (by decide) (by omega), hn]
  refine mw_iload_n dX6_cover_0 rfl ?_
  refine mw_iconst (v := 0) dX6_cover_1 (by decide) ?_
  refine mw_sipush (v := 255) dX6_cover_2 (by decide) ?_
  refine mw_cSI (g := fX6_within) dX6_cover_5 ml_X6_50 mfX6_within (ok_X6_within) rfl rfl (Nat.le_of_ble_eq_true rfl) ⟨by decide, by decide⟩ ⟨by decide, by decide⟩ ?_
  refine mw_if_neB (tgt := 14) dX6_cover_8 (by decide) (fun h8 => ?_) (fun h8 => ?_)
  · skip
    refine mw_aload_n dX6_cover_14 rfl ?_
    refine mw_getr dX6_cover_15 fl_X6_10 rfl (by assumption) (by assumption) ?_
    refine mw_iload_n dX6_cover_18 rfl ?_
    refine mw_callV (g := fX5_fewestFor) dX6_cover_19 ml_X6_175 mfX5_fewestFor (ok_X5_fewestFor t_now ec hn8) (by assumption) rfl rfl (Nat.le_of_ble_eq_true rfl) ⟨by decide, by decide⟩ ⟨by decide, by decide⟩ (fun r S2 mi2 hp => ?_)
    obtain ⟨rfl, e1, hs⟩ := hp
    rw [e1]
    exact mw_iret dX6_cover_22 rfl (by decide) (by decide) (⟨by rw [covC_congr (f := fun i => cSeesA mi (x + 1) i) (g := fun i => rSee A i) (fun i hi => rSee_of hA (by omega))]; simp only [sCover, if_pos h8], rfl, fun j hj => by show tv mi2 (x + 1) j = A j; rw [← hA j hj]; simp only [tv]; rw [hs (x + 1) (by omega), hs (x + 1 + 1) (by omega), hs (x + 1 + 2) (by omega), hs (x + 1 + 9 + (j - 26) / 5) (by omega)], fun a ha => hs a (by omega)⟩)
  · skip
    refine mw_ldc dX6_cover_11 cn_X6_58 ?_
    exact mw_iret dX6_cover_13 rfl (by decide) (by decide) (by rw [sCover, if_neg h8]; exact ⟨rfl, rfl, hA, z⟩)
