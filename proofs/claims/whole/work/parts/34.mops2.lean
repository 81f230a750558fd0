/-! the model's calls: set, star, starOf, chimney, smokes, rule, seed -/
theorem dX7_set_0 : decode fX7_set.2.1 0 = .ok (.iload_n 2, 1) := by decide +kernel
theorem dX7_set_1 : decode fX7_set.2.1 1 = .ok (.iconst 1, 1) := by decide +kernel
theorem dX7_set_2 : decode fX7_set.2.1 2 = .ok (.if_icmp .ne 10, 3) := by decide +kernel
theorem dX7_set_5 : decode fX7_set.2.1 5 = .ok (.iload_n 3, 1) := by decide +kernel
theorem dX7_set_6 : decode fX7_set.2.1 6 = .ok (.invokestatic 123, 3) := by decide +kernel
theorem dX7_set_9 : decode fX7_set.2.1 9 = .ok (.ifCond .ne 38, 3) := by decide +kernel
theorem dX7_set_12 : decode fX7_set.2.1 12 = .ok (.iload_n 2, 1) := by decide +kernel
theorem dX7_set_13 : decode fX7_set.2.1 13 = .ok (.iconst 2, 1) := by decide +kernel
theorem dX7_set_14 : decode fX7_set.2.1 14 = .ok (.if_icmp .ne 13, 3) := by decide +kernel
theorem dX7_set_17 : decode fX7_set.2.1 17 = .ok (.iload_n 3, 1) := by decide +kernel
theorem dX7_set_18 : decode fX7_set.2.1 18 = .ok (.iconst 1, 1) := by decide +kernel
theorem dX7_set_19 : decode fX7_set.2.1 19 = .ok (.bipush 12, 2) := by decide +kernel
theorem dX7_set_21 : decode fX7_set.2.1 21 = .ok (.invokestatic 78, 3) := by decide +kernel
theorem dX7_set_24 : decode fX7_set.2.1 24 = .ok (.ifCond .ne 23, 3) := by decide +kernel
theorem dX7_set_27 : decode fX7_set.2.1 27 = .ok (.iload_n 2, 1) := by decide +kernel
theorem dX7_set_28 : decode fX7_set.2.1 28 = .ok (.iconst 3, 1) := by decide +kernel
theorem dX7_set_29 : decode fX7_set.2.1 29 = .ok (.iconst 4, 1) := by decide +kernel
theorem dX7_set_30 : decode fX7_set.2.1 30 = .ok (.invokestatic 78, 3) := by decide +kernel
theorem dX7_set_33 : decode fX7_set.2.1 33 = .ok (.ifCond .eq 18, 3) := by decide +kernel
theorem dX7_set_36 : decode fX7_set.2.1 36 = .ok (.iload_n 3, 1) := by decide +kernel
theorem dX7_set_37 : decode fX7_set.2.1 37 = .ok (.iconst 0, 1) := by decide +kernel
theorem dX7_set_38 : decode fX7_set.2.1 38 = .ok (.sipush 9999, 3) := by decide +kernel
theorem dX7_set_41 : decode fX7_set.2.1 41 = .ok (.invokestatic 78, 3) := by decide +kernel
theorem dX7_set_44 : decode fX7_set.2.1 44 = .ok (.ifCond .eq 7, 3) := by decide +kernel
theorem dX7_set_47 : decode fX7_set.2.1 47 = .ok (.iconst 1, 1) := by decide +kernel
theorem dX7_set_48 : decode fX7_set.2.1 48 = .ok (.goto 4, 3) := by decide +kernel
theorem dX7_set_51 : decode fX7_set.2.1 51 = .ok (.iconst 0, 1) := by decide +kernel
theorem dX7_set_52 : decode fX7_set.2.1 52 = .ok (.istore 4, 2) := by decide +kernel
theorem dX7_set_54 : decode fX7_set.2.1 54 = .ok (.aload_n 0, 1) := by decide +kernel
theorem dX7_set_55 : decode fX7_set.2.1 55 = .ok (.iload_n 1, 1) := by decide +kernel
theorem dX7_set_56 : decode fX7_set.2.1 56 = .ok (.invokevirtual 132, 3) := by decide +kernel
theorem dX7_set_59 : decode fX7_set.2.1 59 = .ok (.ifCond .eq 24, 3) := by decide +kernel
theorem dX7_set_62 : decode fX7_set.2.1 62 = .ok (.iload 4, 2) := by decide +kernel
theorem dX7_set_64 : decode fX7_set.2.1 64 = .ok (.ifCond .eq 19, 3) := by decide +kernel
theorem dX7_set_67 : decode fX7_set.2.1 67 = .ok (.aload_n 0, 1) := by decide +kernel
theorem dX7_set_68 : decode fX7_set.2.1 68 = .ok (.bipush 26, 2) := by decide +kernel
theorem dX7_set_70 : decode fX7_set.2.1 70 = .ok (.iconst 5, 1) := by decide +kernel
theorem dX7_set_71 : decode fX7_set.2.1 71 = .ok (.iload_n 1, 1) := by decide +kernel
theorem dX7_set_72 : decode fX7_set.2.1 72 = .ok (.imul, 1) := by decide +kernel
theorem dX7_set_73 : decode fX7_set.2.1 73 = .ok (.iadd, 1) := by decide +kernel
theorem dX7_set_74 : decode fX7_set.2.1 74 = .ok (.iload_n 2, 1) := by decide +kernel
theorem dX7_set_75 : decode fX7_set.2.1 75 = .ok (.iadd, 1) := by decide +kernel
theorem dX7_set_76 : decode fX7_set.2.1 76 = .ok (.iload_n 3, 1) := by decide +kernel
theorem dX7_set_77 : decode fX7_set.2.1 77 = .ok (.invokevirtual 142, 3) := by decide +kernel
theorem dX7_set_80 : decode fX7_set.2.1 80 = .ok (.goto 5, 3) := by decide +kernel
theorem dX7_set_83 : decode fX7_set.2.1 83 = .ok (.ldc 127, 2) := by decide +kernel
theorem dX7_set_85 : decode fX7_set.2.1 85 = .ok (.ireturn, 1) := by decide +kernel
set_option maxRecDepth 100000 in
set_option maxHeartbeats 4000000 in
theorem ok_X7_set {X : Xb} {S : Sg} {mi : Mem} {o n : Nat} {A : Nat → Int32} {v w y : Int32} (hM : MdA S o) (hn8 : n ≤ 8) (hA : mi (o + 1) = A) (hn : A 1 = nI n) : Ok 2 0 0 fX7_set X [rf X o, .int v, .int w, .int y] S mi (PM S mi o (sSet A n v w y)) := by
  refine Ok.go [some (rf X o), some (.int v), some (.int w), some (.int y), none] (by decide) (by simp [Value.category]) (Nat.le_of_ble_eq_true rfl) rfl ?_
  obtain ⟨k_o, ⟨r_o_now, k_o_now⟩, ⟨r_o_image, k_o_image⟩, ⟨r_o_aside, k_o_aside⟩, ⟨r_o_seen, k_o_seen⟩, ⟨r_o_unlike, k_o_unlike⟩, ⟨r_o_tape, k_o_tape⟩, ⟨r_o_keys, k_o_keys⟩, ⟨r_o_keyAt, k_o_keyAt⟩, ⟨r_o_code, k_o_code⟩, ⟨r_o_waits, k_o_waits⟩, ⟨r_o_tested, k_o_tested⟩, ⟨r_o_stack, k_o_stack⟩, ⟨r_o_facts, k_o_facts⟩, ⟨r_o_sorts, k_o_sorts⟩, ⟨r_o_sizes, k_o_sizes⟩, ⟨r_o_cells, k_o_cells⟩, ⟨r_o_holds, k_o_holds⟩, ⟨r_o_holdsA, k_o_holdsA⟩, ⟨r_o_holdsB, k_o_holdsB⟩, ⟨r_o_heldCells, k_o_heldCells⟩, ⟨r_o_moved, k_o_moved⟩, ⟨r_o_tells, k_o_tells⟩⟩ := id hM
  have z := FrM.rf o mi
  have s52 : ∀ b : Int32, (b = 0 ↔ ¬ ((w = 1 ∧ 0 ≤ y ∧ y ≤ 23) ∨ (w = 2 ∧ 1 ≤ y ∧ y ≤ 12) ∨ ((w = 3 ∨ w = 4) ∧ 0 ≤ y ∧ y ≤ 9999))) → MW X fX7_set (rmOf 2 0 0) 0 0 52 [some (rf X o), some (.int v), some (.int w), some (.int y), none] [.int b] S mi (mQ X 0 0 (PM S mi o (sSet A n v w y))) := by
    intro b hb
    refine mw_istore dX7_set_52 (by decide) ?_
    refine mw_aload_n dX7_set_54 rfl ?_
    refine mw_iload_n dX7_set_55 rfl ?_
    refine mw_cVI (g := fX7_isAttic) dX7_set_56 ml_X7_132 mfX7_isAttic (ok_X7_isAttic hM) (by assumption) rfl rfl (Nat.le_of_ble_eq_true rfl) ⟨by decide, by decide⟩ ⟨by decide, by decide⟩ ?_
    rw [hA, hn]
    refine mw_if_eqB (tgt := 83) dX7_set_59 (by decide) (fun h59 => ?_) (fun h59 => ?_)
    · skip
      refine mw_ldc dX7_set_83 cn_X7_127 ?_
      exact mw_iret dX7_set_85 rfl (by decide) (by decide) (by first | (rw [sSet, if_pos h59, ecl, ecq, if_pos hc]; exact ⟨by rw [hA], rfl, by rw [m_up_row, hA], z.up⟩) | (rw [sSet, if_neg h59]; exact ⟨rfl, rfl, hA, z⟩) | (rw [sSet, if_pos h59, if_neg (hb.mp h64)]; exact ⟨rfl, rfl, hA, z⟩) | fail "leaf")
    · skip
      refine mw_iload dX7_set_62 rfl ?_
      refine mw_if_eq (tgt := 83) dX7_set_64 (by decide) (fun h64 => ?_) (fun h64 => ?_)
      · skip
        refine mw_ldc dX7_set_83 cn_X7_127 ?_
        exact mw_iret dX7_set_85 rfl (by decide) (by decide) (by first | (rw [sSet, if_pos h59, ecl, ecq, if_pos hc]; exact ⟨by rw [hA], rfl, by rw [m_up_row, hA], z.up⟩) | (rw [sSet, if_neg h59]; exact ⟨rfl, rfl, hA, z⟩) | (rw [sSet, if_pos h59, if_neg (hb.mp h64)]; exact ⟨rfl, rfl, hA, z⟩) | fail "leaf")
      · skip
        obtain ⟨a, han, rfl⟩ := inAt h59 hn8
        have ecl : (nI a).toNatClampNeg = a := nI_clamp (by omega)
        have hc : ((w = 1 ∧ 0 ≤ y ∧ y ≤ 23) ∨ (w = 2 ∧ 1 ≤ y ∧ y ≤ 12) ∨ ((w = 3 ∨ w = 4) ∧ 0 ≤ y ∧ y ≤ 9999)) := Classical.not_not.mp fun q => h64 (hb.mpr q)
        have hw : ∃ q, q < 5 ∧ w = nI q := by rcases hc with h | h | ⟨h | h, -⟩; exact ⟨1, by decide, h.1⟩; exact ⟨2, by decide, h.1⟩; exact ⟨3, by decide, h⟩; exact ⟨4, by decide, h⟩
        obtain ⟨q, hq, rfl⟩ := hw
        have ecq : (nI q).toNatClampNeg = q := nI_clamp (by omega)
        refine mw_aload_n dX7_set_67 rfl ?_
        refine mw_bipush (v := 26) dX7_set_68 (by decide) ?_
        refine mw_iconst (v := 5) dX7_set_70 (by decide) ?_
        refine mw_iload_n dX7_set_71 rfl ?_
        refine mw_imul dX7_set_72 ?_
        refine mw_iadd dX7_set_73 ?_
        refine mw_iload_n dX7_set_74 rfl ?_
        refine mw_iadd dX7_set_75 ?_
        rw [ixA a q]
        refine mw_iload_n dX7_set_76 rfl ?_
        refine mw_cVI (g := fX7_swaps) dX7_set_77 ml_X7_142 mfX7_swaps (ok_X7_swaps hM (s := 26 + 5 * a + q) (by omega)) (by assumption) rfl rfl (Nat.le_of_ble_eq_true rfl) ⟨by decide, by decide⟩ ⟨by decide, by decide⟩ ?_
        refine mw_goto (tgt := 85) dX7_set_80 (by decide) ?_
        exact mw_iret dX7_set_85 rfl (by decide) (by decide) (by first | (rw [sSet, if_pos h59, ecl, ecq, if_pos hc]; exact ⟨by rw [hA], rfl, by rw [m_up_row, hA], z.up⟩) | (rw [sSet, if_neg h59]; exact ⟨rfl, rfl, hA, z⟩) | (rw [sSet, if_pos h59, if_neg (hb.mp h64)]; exact ⟨rfl, rfl, hA, z⟩) | fail "leaf")
  have i34 : (3 ≤ w ∧ w ≤ 4) ↔ (w = 3 ∨ w = 4) := by
    constructor
    · intro h
      obtain ⟨j, hj, rfl⟩ := nI_of (x := w) (Int32.not_lt.mpr (Int32.le_trans (show (0 : Int32) ≤ 3 by decide) h.1))
      have a1 := (nI_leI (a := 3) (by decide) hj).mp h.1
      have a2 := (nI_leI (b := 4) hj (by decide)).mp h.2
      have : j = 3 ∨ j = 4 := by omega
      rcases this with rfl | rfl
      · exact Or.inl rfl
      · exact Or.inr rfl
    · rintro (rfl | rfl) <;> decide
  refine mw_iload_n dX7_set_0 rfl ?_
  refine mw_iconst (v := 1) dX7_set_1 (by decide) ?_
  refine mw_icmp_ne (tgt := 12) dX7_set_2 (by decide) (fun h2 => ?_) (fun h2 => ?_)
  · skip
    refine mw_iload_n dX7_set_12 rfl ?_
    refine mw_iconst (v := 2) dX7_set_13 (by decide) ?_
    refine mw_icmp_ne (tgt := 27) dX7_set_14 (by decide) (fun h14 => ?_) (fun h14 => ?_)
    · skip
      refine mw_iload_n dX7_set_27 rfl ?_
      refine mw_iconst (v := 3) dX7_set_28 (by decide) ?_
      refine mw_iconst (v := 4) dX7_set_29 (by decide) ?_
      refine mw_cSI (g := fX7_in) dX7_set_30 ml_X7_78 mfX7_in (ok_X7_in) rfl rfl (Nat.le_of_ble_eq_true rfl) ⟨by decide, by decide⟩ ⟨by decide, by decide⟩ ?_
      refine mw_if_eqB (tgt := 51) dX7_set_33 (by decide) (fun h33 => ?_) (fun h33 => ?_)
      · skip
        refine mw_iconst (v := 0) dX7_set_51 (by decide) ?_
        first
          | exact s52 1 ⟨fun q => absurd q (by decide), fun q => absurd (by grind) q⟩
          | exact s52 0 ⟨fun _ => by grind, fun _ => rfl⟩
          | fail "stop"
      · skip
        refine mw_iload_n dX7_set_36 rfl ?_
        refine mw_iconst (v := 0) dX7_set_37 (by decide) ?_
        refine mw_sipush (v := 9999) dX7_set_38 (by decide) ?_
        refine mw_cSI (g := fX7_in) dX7_set_41 ml_X7_78 mfX7_in (ok_X7_in) rfl rfl (Nat.le_of_ble_eq_true rfl) ⟨by decide, by decide⟩ ⟨by decide, by decide⟩ ?_
        refine mw_if_eqB (tgt := 51) dX7_set_44 (by decide) (fun h44 => ?_) (fun h44 => ?_)
        · skip
          refine mw_iconst (v := 0) dX7_set_51 (by decide) ?_
          first
            | exact s52 1 ⟨fun q => absurd q (by decide), fun q => absurd (by grind) q⟩
            | exact s52 0 ⟨fun _ => by grind, fun _ => rfl⟩
            | fail "stop"
        · skip
          refine mw_iconst (v := 1) dX7_set_47 (by decide) ?_
          refine mw_goto (tgt := 52) dX7_set_48 (by decide) ?_
          first
            | exact s52 1 ⟨fun q => absurd q (by decide), fun q => absurd (by grind) q⟩
            | exact s52 0 ⟨fun _ => by grind, fun _ => rfl⟩
            | fail "stop"
    · skip
      refine mw_iload_n dX7_set_17 rfl ?_
      refine mw_iconst (v := 1) dX7_set_18 (by decide) ?_
      refine mw_bipush (v := 12) dX7_set_19 (by decide) ?_
      refine mw_cSI (g := fX7_in) dX7_set_21 ml_X7_78 mfX7_in (ok_X7_in) rfl rfl (Nat.le_of_ble_eq_true rfl) ⟨by decide, by decide⟩ ⟨by decide, by decide⟩ ?_
      refine mw_if_neB (tgt := 47) dX7_set_24 (by decide) (fun h24 => ?_) (fun h24 => ?_)
      · skip
        refine mw_iconst (v := 1) dX7_set_47 (by decide) ?_
        refine mw_goto (tgt := 52) dX7_set_48 (by decide) ?_
        first
          | exact s52 1 ⟨fun q => absurd q (by decide), fun q => absurd (by grind) q⟩
          | exact s52 0 ⟨fun _ => by grind, fun _ => rfl⟩
          | fail "stop"
      · skip
        refine mw_iload_n dX7_set_27 rfl ?_
        refine mw_iconst (v := 3) dX7_set_28 (by decide) ?_
        refine mw_iconst (v := 4) dX7_set_29 (by decide) ?_
        refine mw_cSI (g := fX7_in) dX7_set_30 ml_X7_78 mfX7_in (ok_X7_in) rfl rfl (Nat.le_of_ble_eq_true rfl) ⟨by decide, by decide⟩ ⟨by decide, by decide⟩ ?_
        refine mw_if_eqB (tgt := 51) dX7_set_33 (by decide) (fun h33 => ?_) (fun h33 => ?_)
        · skip
          refine mw_iconst (v := 0) dX7_set_51 (by decide) ?_
          first
            | exact s52 1 ⟨fun q => absurd q (by decide), fun q => absurd (by grind) q⟩
            | exact s52 0 ⟨fun _ => by grind, fun _ => rfl⟩
            | fail "stop"
        · skip
          refine mw_iload_n dX7_set_36 rfl ?_
          refine mw_iconst (v := 0) dX7_set_37 (by decide) ?_
          refine mw_sipush (v := 9999) dX7_set_38 (by decide) ?_
          refine mw_cSI (g := fX7_in) dX7_set_41 ml_X7_78 mfX7_in (ok_X7_in) rfl rfl (Nat.le_of_ble_eq_true rfl) ⟨by decide, by decide⟩ ⟨by decide, by decide⟩ ?_
          refine mw_if_eqB (tgt := 51) dX7_set_44 (by decide) (fun h44 => ?_) (fun h44 => ?_)
          · skip
            refine mw_iconst (v := 0) dX7_set_51 (by decide) ?_
            first
              | exact s52 1 ⟨fun q => absurd q (by decide), fun q => absurd (by grind) q⟩
              | exact s52 0 ⟨fun _ => by grind, fun _ => rfl⟩
              | fail "stop"
          · skip
            refine mw_iconst (v := 1) dX7_set_47 (by decide) ?_
            refine mw_goto (tgt := 52) dX7_set_48 (by decide) ?_
            first
              | exact s52 1 ⟨fun q => absurd q (by decide), fun q => absurd (by grind) q⟩
              | exact s52 0 ⟨fun _ => by grind, fun _ => rfl⟩
              | fail "stop"
  · skip
    refine mw_iload_n dX7_set_5 rfl ?_
    refine mw_cSI (g := fX7_isBearing) dX7_set_6 ml_X7_123 mfX7_isBearing (ok_X7_isBearing) rfl rfl (Nat.le_of_ble_eq_true rfl) ⟨by decide, by decide⟩ ⟨by decide, by decide⟩ ?_
    refine mw_if_neB (tgt := 47) dX7_set_9 (by decide) (fun h9 => ?_) (fun h9 => ?_)
    · skip
      refine mw_iconst (v := 1) dX7_set_47 (by decide) ?_
      refine mw_goto (tgt := 52) dX7_set_48 (by decide) ?_
      first
        | exact s52 1 ⟨fun q => absurd q (by decide), fun q => absurd (by grind) q⟩
        | exact s52 0 ⟨fun _ => by grind, fun _ => rfl⟩
        | fail "stop"
    · skip
      refine mw_iload_n dX7_set_12 rfl ?_
      refine mw_iconst (v := 2) dX7_set_13 (by decide) ?_
      refine mw_icmp_ne (tgt := 27) dX7_set_14 (by decide) (fun h14 => ?_) (fun h14 => ?_)
      · skip
        refine mw_iload_n dX7_set_27 rfl ?_
        refine mw_iconst (v := 3) dX7_set_28 (by decide) ?_
        refine mw_iconst (v := 4) dX7_set_29 (by decide) ?_
        refine mw_cSI (g := fX7_in) dX7_set_30 ml_X7_78 mfX7_in (ok_X7_in) rfl rfl (Nat.le_of_ble_eq_true rfl) ⟨by decide, by decide⟩ ⟨by decide, by decide⟩ ?_
        refine mw_if_eqB (tgt := 51) dX7_set_33 (by decide) (fun h33 => ?_) (fun h33 => ?_)
        · skip
          refine mw_iconst (v := 0) dX7_set_51 (by decide) ?_
          first
            | exact s52 1 ⟨fun q => absurd q (by decide), fun q => absurd (by grind) q⟩
            | exact s52 0 ⟨fun _ => by grind, fun _ => rfl⟩
            | fail "stop"
        · skip
          refine mw_iload_n dX7_set_36 rfl ?_
          refine mw_iconst (v := 0) dX7_set_37 (by decide) ?_
          refine mw_sipush (v := 9999) dX7_set_38 (by decide) ?_
          refine mw_cSI (g := fX7_in) dX7_set_41 ml_X7_78 mfX7_in (ok_X7_in) rfl rfl (Nat.le_of_ble_eq_true rfl) ⟨by decide, by decide⟩ ⟨by decide, by decide⟩ ?_
          refine mw_if_eqB (tgt := 51) dX7_set_44 (by decide) (fun h44 => ?_) (fun h44 => ?_)
          · skip
            refine mw_iconst (v := 0) dX7_set_51 (by decide) ?_
            first
              | exact s52 1 ⟨fun q => absurd q (by decide), fun q => absurd (by grind) q⟩
              | exact s52 0 ⟨fun _ => by grind, fun _ => rfl⟩
              | fail "stop"
          · skip
            refine mw_iconst (v := 1) dX7_set_47 (by decide) ?_
            refine mw_goto (tgt := 52) dX7_set_48 (by decide) ?_
            first
              | exact s52 1 ⟨fun q => absurd q (by decide), fun q => absurd (by grind) q⟩
              | exact s52 0 ⟨fun _ => by grind, fun _ => rfl⟩
              | fail "stop"
      · skip
        refine mw_iload_n dX7_set_17 rfl ?_
        refine mw_iconst (v := 1) dX7_set_18 (by decide) ?_
        refine mw_bipush (v := 12) dX7_set_19 (by decide) ?_
        refine mw_cSI (g := fX7_in) dX7_set_21 ml_X7_78 mfX7_in (ok_X7_in) rfl rfl (Nat.le_of_ble_eq_true rfl) ⟨by decide, by decide⟩ ⟨by decide, by decide⟩ ?_
        refine mw_if_neB (tgt := 47) dX7_set_24 (by decide) (fun h24 => ?_) (fun h24 => ?_)
        · skip
          refine mw_iconst (v := 1) dX7_set_47 (by decide) ?_
          refine mw_goto (tgt := 52) dX7_set_48 (by decide) ?_
          first
            | exact s52 1 ⟨fun q => absurd q (by decide), fun q => absurd (by grind) q⟩
            | exact s52 0 ⟨fun _ => by grind, fun _ => rfl⟩
            | fail "stop"
        · skip
          refine mw_iload_n dX7_set_27 rfl ?_
          refine mw_iconst (v := 3) dX7_set_28 (by decide) ?_
          refine mw_iconst (v := 4) dX7_set_29 (by decide) ?_
          refine mw_cSI (g := fX7_in) dX7_set_30 ml_X7_78 mfX7_in (ok_X7_in) rfl rfl (Nat.le_of_ble_eq_true rfl) ⟨by decide, by decide⟩ ⟨by decide, by decide⟩ ?_
          refine mw_if_eqB (tgt := 51) dX7_set_33 (by decide) (fun h33 => ?_) (fun h33 => ?_)
          · skip
            refine mw_iconst (v := 0) dX7_set_51 (by decide) ?_
            first
              | exact s52 1 ⟨fun q => absurd q (by decide), fun q => absurd (by grind) q⟩
              | exact s52 0 ⟨fun _ => by grind, fun _ => rfl⟩
              | fail "stop"
          · skip
            refine mw_iload_n dX7_set_36 rfl ?_
            refine mw_iconst (v := 0) dX7_set_37 (by decide) ?_
            refine mw_sipush (v := 9999) dX7_set_38 (by decide) ?_
            refine mw_cSI (g := fX7_in) dX7_set_41 ml_X7_78 mfX7_in (ok_X7_in) rfl rfl (Nat.le_of_ble_eq_true rfl) ⟨by decide, by decide⟩ ⟨by decide, by decide⟩ ?_
            refine mw_if_eqB (tgt := 51) dX7_set_44 (by decide) (fun h44 => ?_) (fun h44 => ?_)
            · skip
              refine mw_iconst (v := 0) dX7_set_51 (by decide) ?_
              first
                | exact s52 1 ⟨fun q => absurd q (by decide), fun q => absurd (by grind) q⟩
                | exact s52 0 ⟨fun _ => by grind, fun _ => rfl⟩
                | fail "stop"
            · skip
              refine mw_iconst (v := 1) dX7_set_47 (by decide) ?_
              refine mw_goto (tgt := 52) dX7_set_48 (by decide) ?_
              first
                | exact s52 1 ⟨fun q => absurd q (by decide), fun q => absurd (by grind) q⟩
                | exact s52 0 ⟨fun _ => by grind, fun _ => rfl⟩
                | fail "stop"
theorem ixS (w k : Nat) : (10 : Int32) + 8 * nI w + nI k = nI (10 + 8 * w + k) := by
  show nI 10 + nI 8 * nI w + nI k = _
  rw [nI_mul, nI_add, nI_add]
theorem dX7_star_0 : decode fX7_star.2.1 0 = .ok (.iload_n 2, 1) := by decide +kernel
theorem dX7_star_1 : decode fX7_star.2.1 1 = .ok (.ifCond .ne 10, 3) := by decide +kernel
theorem dX7_star_4 : decode fX7_star.2.1 4 = .ok (.iload_n 3, 1) := by decide +kernel
theorem dX7_star_5 : decode fX7_star.2.1 5 = .ok (.invokestatic 123, 3) := by decide +kernel
theorem dX7_star_8 : decode fX7_star.2.1 8 = .ok (.ifCond .ne 18, 3) := by decide +kernel
theorem dX7_star_11 : decode fX7_star.2.1 11 = .ok (.iload_n 2, 1) := by decide +kernel
theorem dX7_star_12 : decode fX7_star.2.1 12 = .ok (.iconst 1, 1) := by decide +kernel
theorem dX7_star_13 : decode fX7_star.2.1 13 = .ok (.if_icmp .ne 17, 3) := by decide +kernel
theorem dX7_star_16 : decode fX7_star.2.1 16 = .ok (.iload_n 3, 1) := by decide +kernel
theorem dX7_star_17 : decode fX7_star.2.1 17 = .ok (.iconst 0, 1) := by decide +kernel
theorem dX7_star_18 : decode fX7_star.2.1 18 = .ok (.bipush 99, 2) := by decide +kernel
theorem dX7_star_20 : decode fX7_star.2.1 20 = .ok (.invokestatic 78, 3) := by decide +kernel
theorem dX7_star_23 : decode fX7_star.2.1 23 = .ok (.ifCond .eq 7, 3) := by decide +kernel
theorem dX7_star_26 : decode fX7_star.2.1 26 = .ok (.iconst 1, 1) := by decide +kernel
theorem dX7_star_27 : decode fX7_star.2.1 27 = .ok (.goto 4, 3) := by decide +kernel
theorem dX7_star_30 : decode fX7_star.2.1 30 = .ok (.iconst 0, 1) := by decide +kernel
theorem dX7_star_31 : decode fX7_star.2.1 31 = .ok (.istore 4, 2) := by decide +kernel
theorem dX7_star_33 : decode fX7_star.2.1 33 = .ok (.iload_n 1, 1) := by decide +kernel
theorem dX7_star_34 : decode fX7_star.2.1 34 = .ok (.invokestatic 145, 3) := by decide +kernel
theorem dX7_star_37 : decode fX7_star.2.1 37 = .ok (.ifCond .eq 25, 3) := by decide +kernel
theorem dX7_star_40 : decode fX7_star.2.1 40 = .ok (.iload 4, 2) := by decide +kernel
theorem dX7_star_42 : decode fX7_star.2.1 42 = .ok (.ifCond .eq 20, 3) := by decide +kernel
theorem dX7_star_45 : decode fX7_star.2.1 45 = .ok (.aload_n 0, 1) := by decide +kernel
theorem dX7_star_46 : decode fX7_star.2.1 46 = .ok (.bipush 10, 2) := by decide +kernel
theorem dX7_star_48 : decode fX7_star.2.1 48 = .ok (.bipush 8, 2) := by decide +kernel
theorem dX7_star_50 : decode fX7_star.2.1 50 = .ok (.iload_n 2, 1) := by decide +kernel
theorem dX7_star_51 : decode fX7_star.2.1 51 = .ok (.imul, 1) := by decide +kernel
theorem dX7_star_52 : decode fX7_star.2.1 52 = .ok (.iadd, 1) := by decide +kernel
theorem dX7_star_53 : decode fX7_star.2.1 53 = .ok (.iload_n 1, 1) := by decide +kernel
theorem dX7_star_54 : decode fX7_star.2.1 54 = .ok (.iadd, 1) := by decide +kernel
theorem dX7_star_55 : decode fX7_star.2.1 55 = .ok (.iload_n 3, 1) := by decide +kernel
theorem dX7_star_56 : decode fX7_star.2.1 56 = .ok (.invokevirtual 142, 3) := by decide +kernel
theorem dX7_star_59 : decode fX7_star.2.1 59 = .ok (.goto 5, 3) := by decide +kernel
theorem dX7_star_62 : decode fX7_star.2.1 62 = .ok (.ldc 127, 2) := by decide +kernel
theorem dX7_star_64 : decode fX7_star.2.1 64 = .ok (.ireturn, 1) := by decide +kernel
set_option maxRecDepth 100000 in
set_option maxHeartbeats 4000000 in
theorem ok_X7_star {X : Xb} {S : Sg} {mi : Mem} {o n : Nat} {A : Nat → Int32} {v w y : Int32} (hM : MdA S o) (hn8 : n ≤ 8) (hA : mi (o + 1) = A) (hn : A 1 = nI n) : Ok 2 0 0 fX7_star X [rf X o, .int v, .int w, .int y] S mi (PM S mi o (sStar A n v w y)) := by
  refine Ok.go [some (rf X o), some (.int v), some (.int w), some (.int y), none] (by decide) (by simp [Value.category]) (Nat.le_of_ble_eq_true rfl) rfl ?_
  obtain ⟨k_o, ⟨r_o_now, k_o_now⟩, ⟨r_o_image, k_o_image⟩, ⟨r_o_aside, k_o_aside⟩, ⟨r_o_seen, k_o_seen⟩, ⟨r_o_unlike, k_o_unlike⟩, ⟨r_o_tape, k_o_tape⟩, ⟨r_o_keys, k_o_keys⟩, ⟨r_o_keyAt, k_o_keyAt⟩, ⟨r_o_code, k_o_code⟩, ⟨r_o_waits, k_o_waits⟩, ⟨r_o_tested, k_o_tested⟩, ⟨r_o_stack, k_o_stack⟩, ⟨r_o_facts, k_o_facts⟩, ⟨r_o_sorts, k_o_sorts⟩, ⟨r_o_sizes, k_o_sizes⟩, ⟨r_o_cells, k_o_cells⟩, ⟨r_o_holds, k_o_holds⟩, ⟨r_o_holdsA, k_o_holdsA⟩, ⟨r_o_holdsB, k_o_holdsB⟩, ⟨r_o_heldCells, k_o_heldCells⟩, ⟨r_o_moved, k_o_moved⟩, ⟨r_o_tells, k_o_tells⟩⟩ := id hM
  have z := FrM.rf o mi
  have s31 : ∀ b : Int32, (b = 0 ↔ ¬ ((w = 0 ∧ 0 ≤ y ∧ y ≤ 23) ∨ (w = 1 ∧ 0 ≤ y ∧ y ≤ 99))) → MW X fX7_star (rmOf 2 0 0) 0 0 31 [some (rf X o), some (.int v), some (.int w), some (.int y), none] [.int b] S mi (mQ X 0 0 (PM S mi o (sStar A n v w y))) := by
    intro b hb
    refine mw_istore dX7_star_31 (by decide) ?_
    refine mw_iload_n dX7_star_33 rfl ?_
    refine mw_cSI (g := fX7_isStar) dX7_star_34 ml_X7_145 mfX7_isStar (ok_X7_isStar) rfl rfl (Nat.le_of_ble_eq_true rfl) ⟨by decide, by decide⟩ ⟨by decide, by decide⟩ ?_
    refine mw_if_eqB (tgt := 62) dX7_star_37 (by decide) (fun h37 => ?_) (fun h37 => ?_)
    · skip
      refine mw_ldc dX7_star_62 cn_X7_127 ?_
      exact mw_iret dX7_star_64 rfl (by decide) (by decide) (by first | (rw [sStar, if_pos ⟨h37, hc⟩, ecl, ecq]; exact ⟨by rw [hA], rfl, by rw [m_up_row, hA], z.up⟩) | (rw [sStar, if_neg (fun q => h37 q.1)]; exact ⟨rfl, rfl, hA, z⟩) | (rw [sStar, if_neg (fun q => hb.mp h42 q.2)]; exact ⟨rfl, rfl, hA, z⟩) | fail "leaf")
    · skip
      refine mw_iload dX7_star_40 rfl ?_
      refine mw_if_eq (tgt := 62) dX7_star_42 (by decide) (fun h42 => ?_) (fun h42 => ?_)
      · skip
        refine mw_ldc dX7_star_62 cn_X7_127 ?_
        exact mw_iret dX7_star_64 rfl (by decide) (by decide) (by first | (rw [sStar, if_pos ⟨h37, hc⟩, ecl, ecq]; exact ⟨by rw [hA], rfl, by rw [m_up_row, hA], z.up⟩) | (rw [sStar, if_neg (fun q => h37 q.1)]; exact ⟨rfl, rfl, hA, z⟩) | (rw [sStar, if_neg (fun q => hb.mp h42 q.2)]; exact ⟨rfl, rfl, hA, z⟩) | fail "leaf")
      · skip
        obtain ⟨a, ha, rfl⟩ := in7 h37
        have ecl : (nI a).toNatClampNeg = a := nI_clamp (by omega)
        have hc : ((w = 0 ∧ 0 ≤ y ∧ y ≤ 23) ∨ (w = 1 ∧ 0 ≤ y ∧ y ≤ 99)) := Classical.not_not.mp fun q => h42 (hb.mpr q)
        have hw : ∃ q, q < 2 ∧ w = nI q := by rcases hc with h | h; exact ⟨0, by decide, h.1⟩; exact ⟨1, by decide, h.1⟩
        obtain ⟨q, hq, rfl⟩ := hw
        have ecq : (nI q).toNatClampNeg = q := nI_clamp (by omega)
        refine mw_aload_n dX7_star_45 rfl ?_
        refine mw_bipush (v := 10) dX7_star_46 (by decide) ?_
        refine mw_bipush (v := 8) dX7_star_48 (by decide) ?_
        refine mw_iload_n dX7_star_50 rfl ?_
        refine mw_imul dX7_star_51 ?_
        refine mw_iadd dX7_star_52 ?_
        refine mw_iload_n dX7_star_53 rfl ?_
        refine mw_iadd dX7_star_54 ?_
        rw [ixS q a]
        refine mw_iload_n dX7_star_55 rfl ?_
        refine mw_cVI (g := fX7_swaps) dX7_star_56 ml_X7_142 mfX7_swaps (ok_X7_swaps hM (s := 10 + 8 * q + a) (by omega)) (by assumption) rfl rfl (Nat.le_of_ble_eq_true rfl) ⟨by decide, by decide⟩ ⟨by decide, by decide⟩ ?_
        refine mw_goto (tgt := 64) dX7_star_59 (by decide) ?_
        exact mw_iret dX7_star_64 rfl (by decide) (by decide) (by first | (rw [sStar, if_pos ⟨h37, hc⟩, ecl, ecq]; exact ⟨by rw [hA], rfl, by rw [m_up_row, hA], z.up⟩) | (rw [sStar, if_neg (fun q => h37 q.1)]; exact ⟨rfl, rfl, hA, z⟩) | (rw [sStar, if_neg (fun q => hb.mp h42 q.2)]; exact ⟨rfl, rfl, hA, z⟩) | fail "leaf")
  refine mw_iload_n dX7_star_0 rfl ?_
  refine mw_if_ne (tgt := 11) dX7_star_1 (by decide) (fun h1 => ?_) (fun h1 => ?_)
  · skip
    refine mw_iload_n dX7_star_11 rfl ?_
    refine mw_iconst (v := 1) dX7_star_12 (by decide) ?_
    refine mw_icmp_ne (tgt := 30) dX7_star_13 (by decide) (fun h13 => ?_) (fun h13 => ?_)
    · skip
      refine mw_iconst (v := 0) dX7_star_30 (by decide) ?_
      first
        | exact s31 1 ⟨fun q => absurd q (by decide), fun q => absurd (by grind) q⟩
        | exact s31 0 ⟨fun _ => by grind, fun _ => rfl⟩
        | fail "stop"
    · skip
      refine mw_iload_n dX7_star_16 rfl ?_
      refine mw_iconst (v := 0) dX7_star_17 (by decide) ?_
      refine mw_bipush (v := 99) dX7_star_18 (by decide) ?_
      refine mw_cSI (g := fX7_in) dX7_star_20 ml_X7_78 mfX7_in (ok_X7_in) rfl rfl (Nat.le_of_ble_eq_true rfl) ⟨by decide, by decide⟩ ⟨by decide, by decide⟩ ?_
      refine mw_if_eqB (tgt := 30) dX7_star_23 (by decide) (fun h23 => ?_) (fun h23 => ?_)
      · skip
        refine mw_iconst (v := 0) dX7_star_30 (by decide) ?_
        first
          | exact s31 1 ⟨fun q => absurd q (by decide), fun q => absurd (by grind) q⟩
          | exact s31 0 ⟨fun _ => by grind, fun _ => rfl⟩
          | fail "stop"
      · skip
        refine mw_iconst (v := 1) dX7_star_26 (by decide) ?_
        refine mw_goto (tgt := 31) dX7_star_27 (by decide) ?_
        first
          | exact s31 1 ⟨fun q => absurd q (by decide), fun q => absurd (by grind) q⟩
          | exact s31 0 ⟨fun _ => by grind, fun _ => rfl⟩
          | fail "stop"
  · skip
    refine mw_iload_n dX7_star_4 rfl ?_
    refine mw_cSI (g := fX7_isBearing) dX7_star_5 ml_X7_123 mfX7_isBearing (ok_X7_isBearing) rfl rfl (Nat.le_of_ble_eq_true rfl) ⟨by decide, by decide⟩ ⟨by decide, by decide⟩ ?_
    refine mw_if_neB (tgt := 26) dX7_star_8 (by decide) (fun h8 => ?_) (fun h8 => ?_)
    · skip
      refine mw_iconst (v := 1) dX7_star_26 (by decide) ?_
      refine mw_goto (tgt := 31) dX7_star_27 (by decide) ?_
      first
        | exact s31 1 ⟨fun q => absurd q (by decide), fun q => absurd (by grind) q⟩
        | exact s31 0 ⟨fun _ => by grind, fun _ => rfl⟩
        | fail "stop"
    · skip
      refine mw_iload_n dX7_star_11 rfl ?_
      refine mw_iconst (v := 1) dX7_star_12 (by decide) ?_
      refine mw_icmp_ne (tgt := 30) dX7_star_13 (by decide) (fun h13 => ?_) (fun h13 => ?_)
      · skip
        refine mw_iconst (v := 0) dX7_star_30 (by decide) ?_
        first
          | exact s31 1 ⟨fun q => absurd q (by decide), fun q => absurd (by grind) q⟩
          | exact s31 0 ⟨fun _ => by grind, fun _ => rfl⟩
          | fail "stop"
      · skip
        refine mw_iload_n dX7_star_16 rfl ?_
        refine mw_iconst (v := 0) dX7_star_17 (by decide) ?_
        refine mw_bipush (v := 99) dX7_star_18 (by decide) ?_
        refine mw_cSI (g := fX7_in) dX7_star_20 ml_X7_78 mfX7_in (ok_X7_in) rfl rfl (Nat.le_of_ble_eq_true rfl) ⟨by decide, by decide⟩ ⟨by decide, by decide⟩ ?_
        refine mw_if_eqB (tgt := 30) dX7_star_23 (by decide) (fun h23 => ?_) (fun h23 => ?_)
        · skip
          refine mw_iconst (v := 0) dX7_star_30 (by decide) ?_
          first
            | exact s31 1 ⟨fun q => absurd q (by decide), fun q => absurd (by grind) q⟩
            | exact s31 0 ⟨fun _ => by grind, fun _ => rfl⟩
            | fail "stop"
        · skip
          refine mw_iconst (v := 1) dX7_star_26 (by decide) ?_
          refine mw_goto (tgt := 31) dX7_star_27 (by decide) ?_
          first
            | exact s31 1 ⟨fun q => absurd q (by decide), fun q => absurd (by grind) q⟩
            | exact s31 0 ⟨fun _ => by grind, fun _ => rfl⟩
            | fail "stop"
theorem dX7_seers_0 : decode fX7_seers.2.1 0 = .ok (.iconst 0, 1) := by decide +kernel
theorem dX7_seers_1 : decode fX7_seers.2.1 1 = .ok (.istore_n 2, 1) := by decide +kernel
theorem dX7_seers_2 : decode fX7_seers.2.1 2 = .ok (.iconst 0, 1) := by decide +kernel
theorem dX7_seers_3 : decode fX7_seers.2.1 3 = .ok (.istore_n 3, 1) := by decide +kernel
theorem dX7_seers_4 : decode fX7_seers.2.1 4 = .ok (.iload_n 3, 1) := by decide +kernel
theorem dX7_seers_5 : decode fX7_seers.2.1 5 = .ok (.aload_n 0, 1) := by decide +kernel
theorem dX7_seers_6 : decode fX7_seers.2.1 6 = .ok (.getfield 9, 3) := by decide +kernel
theorem dX7_seers_9 : decode fX7_seers.2.1 9 = .ok (.iconst 1, 1) := by decide +kernel
theorem dX7_seers_10 : decode fX7_seers.2.1 10 = .ok (.iaload, 1) := by decide +kernel
theorem dX7_seers_11 : decode fX7_seers.2.1 11 = .ok (.if_icmp .ge 32, 3) := by decide +kernel
theorem dX7_seers_14 : decode fX7_seers.2.1 14 = .ok (.iload_n 2, 1) := by decide +kernel
theorem dX7_seers_15 : decode fX7_seers.2.1 15 = .ok (.aload_n 0, 1) := by decide +kernel
theorem dX7_seers_16 : decode fX7_seers.2.1 16 = .ok (.iload_n 3, 1) := by decide +kernel
theorem dX7_seers_17 : decode fX7_seers.2.1 17 = .ok (.invokevirtual 104, 3) := by decide +kernel
theorem dX7_seers_20 : decode fX7_seers.2.1 20 = .ok (.iload_n 1, 1) := by decide +kernel
theorem dX7_seers_21 : decode fX7_seers.2.1 21 = .ok (.ishr, 1) := by decide +kernel
theorem dX7_seers_22 : decode fX7_seers.2.1 22 = .ok (.iconst 1, 1) := by decide +kernel
theorem dX7_seers_23 : decode fX7_seers.2.1 23 = .ok (.iand, 1) := by decide +kernel
theorem dX7_seers_24 : decode fX7_seers.2.1 24 = .ok (.iconst 1, 1) := by decide +kernel
theorem dX7_seers_25 : decode fX7_seers.2.1 25 = .ok (.if_icmp .ne 9, 3) := by decide +kernel
theorem dX7_seers_28 : decode fX7_seers.2.1 28 = .ok (.iconst 1, 1) := by decide +kernel
theorem dX7_seers_29 : decode fX7_seers.2.1 29 = .ok (.iload_n 3, 1) := by decide +kernel
theorem dX7_seers_30 : decode fX7_seers.2.1 30 = .ok (.ishl, 1) := by decide +kernel
theorem dX7_seers_31 : decode fX7_seers.2.1 31 = .ok (.goto 4, 3) := by decide +kernel
theorem dX7_seers_34 : decode fX7_seers.2.1 34 = .ok (.iconst 0, 1) := by decide +kernel
theorem dX7_seers_35 : decode fX7_seers.2.1 35 = .ok (.ior, 1) := by decide +kernel
theorem dX7_seers_36 : decode fX7_seers.2.1 36 = .ok (.istore_n 2, 1) := by decide +kernel
theorem dX7_seers_37 : decode fX7_seers.2.1 37 = .ok (.iinc 3 1, 3) := by decide +kernel
theorem dX7_seers_40 : decode fX7_seers.2.1 40 = .ok (.goto (-36), 3) := by decide +kernel
theorem dX7_seers_43 : decode fX7_seers.2.1 43 = .ok (.iload_n 2, 1) := by decide +kernel
theorem dX7_seers_44 : decode fX7_seers.2.1 44 = .ok (.ireturn, 1) := by decide +kernel
set_option maxRecDepth 100000 in
set_option maxHeartbeats 4000000 in
theorem ok_X7_seers {X : Xb} {S : Sg} {mi : Mem} {o n : Nat} {j : Int32} (hM : MdA S o) (hn : mi (o + 1) 1 = nI n) (hn8 : n ≤ 8) : OkI 4 fX7_seers X [rf X o, .int j] S mi (fld (fun s i => s ||| (if rSees (mi (o + 1)) i >>> (j &&& 31) &&& 1 = 1 then 1 <<< (nI i &&& 31) else 0)) 0 n) mi := by
  refine Ok.go [some (rf X o), some (.int j), none, none] (by decide) (by simp [Value.category]) (Nat.le_of_ble_eq_true rfl) rfl ?_
  obtain ⟨k_o, ⟨r_o_now, k_o_now⟩, ⟨r_o_image, k_o_image⟩, ⟨r_o_aside, k_o_aside⟩, ⟨r_o_seen, k_o_seen⟩, ⟨r_o_unlike, k_o_unlike⟩, ⟨r_o_tape, k_o_tape⟩, ⟨r_o_keys, k_o_keys⟩, ⟨r_o_keyAt, k_o_keyAt⟩, ⟨r_o_code, k_o_code⟩, ⟨r_o_waits, k_o_waits⟩, ⟨r_o_tested, k_o_tested⟩, ⟨r_o_stack, k_o_stack⟩, ⟨r_o_facts, k_o_facts⟩, ⟨r_o_sorts, k_o_sorts⟩, ⟨r_o_sizes, k_o_sizes⟩, ⟨r_o_cells, k_o_cells⟩, ⟨r_o_holds, k_o_holds⟩, ⟨r_o_holdsA, k_o_holdsA⟩, ⟨r_o_holdsB, k_o_holdsB⟩, ⟨r_o_heldCells, k_o_heldCells⟩, ⟨r_o_moved, k_o_moved⟩, ⟨r_o_tells, k_o_tells⟩⟩ := id hM
  have lp := mw_dn (P := fun k => MW X fX7_seers (rmOf 4 0 0) 0 0 4 [some (rf X o), some (.int j), some (.int (fld (fun s i => s ||| (if rSees (mi (o + 1)) i >>> (j &&& 31) &&& 1 = 1 then 1 <<< (nI i &&& 31) else 0)) 0 k)), some (.int (nI k))] [] S mi (mQ X 0 0 (pI (fld (fun s i => s ||| (if rSees (mi (o + 1)) i >>> (j &&& 31) &&& 1 = 1 then 1 <<< (nI i &&& 31) else 0)) 0 n) S mi))) n (by
    refine mw_iload_n dX7_seers_4 rfl ?_
    refine mw_aload_n dX7_seers_5 rfl ?_
    refine mw_getr dX7_seers_6 fl_X7_9 rfl (by assumption) (by assumption) ?_
    refine mw_iconst (v := 1) dX7_seers_9 (by decide) ?_
    refine mw_ialdK (k := 1) dX7_seers_10 (by assumption) (rfl) (by decide) (by decide) ?_
    rw [hn]
    refine mw_icmp_ge (tgt := 43) dX7_seers_11 (by decide) (fun h11 => ?_) (fun h11 => ?_)
    · skip
      refine mw_iload_n dX7_seers_43 rfl ?_
      exact mw_iret dX7_seers_44 rfl (by decide) (by decide) (⟨rfl, rfl, rfl⟩)
    · skip
      exact absurd (Int32.le_refl _) h11) (fun k hk ih => by
    refine mw_iload_n dX7_seers_4 rfl ?_
    refine mw_aload_n dX7_seers_5 rfl ?_
    refine mw_getr dX7_seers_6 fl_X7_9 rfl (by assumption) (by assumption) ?_
    refine mw_iconst (v := 1) dX7_seers_9 (by decide) ?_
    refine mw_ialdK (k := 1) dX7_seers_10 (by assumption) (rfl) (by decide) (by decide) ?_
    rw [hn]
    refine mw_icmp_ge (tgt := 43) dX7_seers_11 (by decide) (fun h11 => ?_) (fun h11 => ?_)
    · skip
      exact absurd h11 (nI_ge hk (by omega))
    · skip
      refine mw_iload_n dX7_seers_14 rfl ?_
      refine mw_aload_n dX7_seers_15 rfl ?_
      refine mw_iload_n dX7_seers_16 rfl ?_
      refine mw_cVI (g := fX7_sees) dX7_seers_17 ml_X7_104 mfX7_sees (ok_X7_sees hM (by omega)) (by assumption) rfl rfl (Nat.le_of_ble_eq_true rfl) ⟨by decide, by decide⟩ ⟨by decide, by decide⟩ ?_
      refine mw_iload_n dX7_seers_20 rfl ?_
      refine mw_ishr dX7_seers_21 ?_
      refine mw_iconst (v := 1) dX7_seers_22 (by decide) ?_
      refine mw_iand dX7_seers_23 ?_
      refine mw_iconst (v := 1) dX7_seers_24 (by decide) ?_
      refine mw_icmp_ne (tgt := 34) dX7_seers_25 (by decide) (fun h25 => ?_) (fun h25 => ?_)
      · skip
        refine mw_iconst (v := 0) dX7_seers_34 (by decide) ?_
        refine mw_ior dX7_seers_35 ?_
        refine mw_istN 2 dX7_seers_36 rfl (by decide) ?_
        refine mw_iincK (k := k) dX7_seers_37 rfl rfl (by decide) ?_
        refine mw_goto (tgt := 4) dX7_seers_40 (by decide) ?_
        exact MW.sub (by simp only [fld]; first | (rw [if_pos h25]; simp [lsub]; done) | (rw [if_neg h25]; simp [lsub]; done) | fail "l") ih
      · skip
        refine mw_iconst (v := 1) dX7_seers_28 (by decide) ?_
        refine mw_iload_n dX7_seers_29 rfl ?_
        refine mw_ishl dX7_seers_30 ?_
        refine mw_goto (tgt := 35) dX7_seers_31 (by decide) ?_
        refine mw_ior dX7_seers_35 ?_
        refine mw_istN 2 dX7_seers_36 rfl (by decide) ?_
        refine mw_iincK (k := k) dX7_seers_37 rfl rfl (by decide) ?_
        refine mw_goto (tgt := 4) dX7_seers_40 (by decide) ?_
        exact MW.sub (by simp only [fld]; first | (rw [if_pos h25]; simp [lsub]; done) | (rw [if_neg h25]; simp [lsub]; done) | fail "l") ih)
  refine mw_iconst (v := 0) dX7_seers_0 (by decide) ?_
  refine mw_istN 2 dX7_seers_1 rfl (by decide) ?_
  refine mw_iconst (v := 0) dX7_seers_2 (by decide) ?_
  refine mw_istN 3 dX7_seers_3 rfl (by decide) ?_
  exact MW.sub (by simp [lsub, fld, nI_0]) lp
def mStarOf (A : Nat → Int32) (n : Nat) (v w : Int32) : Int32 := if 0 ≤ v ∧ v ≤ 7 then (if w = 0 then A (10 + v.toNatClampNeg) else if w = 1 then A (18 + v.toNatClampNeg) else if w = 2 then jr (A (10 + v.toNatClampNeg) + A 2) 24 else if w = 3 then fld (fun s i => s ||| (if rSees A i >>> (v &&& 31) &&& 1 = 1 then 1 <<< (nI i &&& 31) else 0)) 0 n else BADi) else BADi
theorem in3 {v : Int32} (h : 0 ≤ v ∧ v ≤ 3) : ∃ k, k < 4 ∧ v = nI k := by
  obtain ⟨j, hj, rfl⟩ := nI_of (Int32.not_lt.mpr h.1)
  exact ⟨j, by have := (nI_leI (b := 3) hj (by decide)).mp h.2; omega, rfl⟩
theorem mStarOf_f {A : Nat → Int32} {n a q : Nat} (h : 0 ≤ nI a ∧ nI a ≤ 7) (ha : a < 8) (hq : q < 2) : mStarOf A n (nI a) (nI q) = A (10 + 8 * q + a) := by
  have ecl : (nI a).toNatClampNeg = a := nI_clamp (by omega)
  rw [mStarOf, if_pos h, ecl]
  have : q = 0 ∨ q = 1 := by omega
  rcases this with rfl | rfl
  · rfl
  · rw [if_neg (by decide), if_pos (by rfl)]
theorem dX7_starOf_0 : decode fX7_starOf.2.1 0 = .ok (.iload_n 1, 1) := by decide +kernel
theorem dX7_starOf_1 : decode fX7_starOf.2.1 1 = .ok (.invokestatic 145, 3) := by decide +kernel
theorem dX7_starOf_4 : decode fX7_starOf.2.1 4 = .ok (.ifCond .eq 12, 3) := by decide +kernel
theorem dX7_starOf_7 : decode fX7_starOf.2.1 7 = .ok (.iload_n 2, 1) := by decide +kernel
theorem dX7_starOf_8 : decode fX7_starOf.2.1 8 = .ok (.iconst 0, 1) := by decide +kernel
theorem dX7_starOf_9 : decode fX7_starOf.2.1 9 = .ok (.iconst 3, 1) := by decide +kernel
theorem dX7_starOf_10 : decode fX7_starOf.2.1 10 = .ok (.invokestatic 78, 3) := by decide +kernel
theorem dX7_starOf_13 : decode fX7_starOf.2.1 13 = .ok (.ifCond .ne 6, 3) := by decide +kernel
theorem dX7_starOf_16 : decode fX7_starOf.2.1 16 = .ok (.ldc 127, 2) := by decide +kernel
theorem dX7_starOf_18 : decode fX7_starOf.2.1 18 = .ok (.ireturn, 1) := by decide +kernel
theorem dX7_starOf_19 : decode fX7_starOf.2.1 19 = .ok (.iload_n 2, 1) := by decide +kernel
theorem dX7_starOf_20 : decode fX7_starOf.2.1 20 = .ok (.iconst 2, 1) := by decide +kernel
theorem dX7_starOf_21 : decode fX7_starOf.2.1 21 = .ok (.if_icmp .ge 20, 3) := by decide +kernel
theorem dX7_starOf_24 : decode fX7_starOf.2.1 24 = .ok (.aload_n 0, 1) := by decide +kernel
theorem dX7_starOf_25 : decode fX7_starOf.2.1 25 = .ok (.getfield 9, 3) := by decide +kernel
theorem dX7_starOf_28 : decode fX7_starOf.2.1 28 = .ok (.bipush 10, 2) := by decide +kernel
theorem dX7_starOf_30 : decode fX7_starOf.2.1 30 = .ok (.bipush 8, 2) := by decide +kernel
theorem dX7_starOf_32 : decode fX7_starOf.2.1 32 = .ok (.iload_n 2, 1) := by decide +kernel
theorem dX7_starOf_33 : decode fX7_starOf.2.1 33 = .ok (.imul, 1) := by decide +kernel
theorem dX7_starOf_34 : decode fX7_starOf.2.1 34 = .ok (.iadd, 1) := by decide +kernel
theorem dX7_starOf_35 : decode fX7_starOf.2.1 35 = .ok (.iload_n 1, 1) := by decide +kernel
theorem dX7_starOf_36 : decode fX7_starOf.2.1 36 = .ok (.iadd, 1) := by decide +kernel
theorem dX7_starOf_37 : decode fX7_starOf.2.1 37 = .ok (.iaload, 1) := by decide +kernel
theorem dX7_starOf_38 : decode fX7_starOf.2.1 38 = .ok (.goto 21, 3) := by decide +kernel
theorem dX7_starOf_41 : decode fX7_starOf.2.1 41 = .ok (.iload_n 2, 1) := by decide +kernel
theorem dX7_starOf_42 : decode fX7_starOf.2.1 42 = .ok (.iconst 2, 1) := by decide +kernel
theorem dX7_starOf_43 : decode fX7_starOf.2.1 43 = .ok (.if_icmp .ne 11, 3) := by decide +kernel
theorem dX7_starOf_46 : decode fX7_starOf.2.1 46 = .ok (.aload_n 0, 1) := by decide +kernel
theorem dX7_starOf_47 : decode fX7_starOf.2.1 47 = .ok (.iload_n 1, 1) := by decide +kernel
theorem dX7_starOf_48 : decode fX7_starOf.2.1 48 = .ok (.invokevirtual 97, 3) := by decide +kernel
theorem dX7_starOf_51 : decode fX7_starOf.2.1 51 = .ok (.goto 8, 3) := by decide +kernel
theorem dX7_starOf_54 : decode fX7_starOf.2.1 54 = .ok (.aload_n 0, 1) := by decide +kernel
theorem dX7_starOf_55 : decode fX7_starOf.2.1 55 = .ok (.iload_n 1, 1) := by decide +kernel
theorem dX7_starOf_56 : decode fX7_starOf.2.1 56 = .ok (.invokevirtual 148, 3) := by decide +kernel
theorem dX7_starOf_59 : decode fX7_starOf.2.1 59 = .ok (.ireturn, 1) := by decide +kernel
set_option maxRecDepth 100000 in
set_option maxHeartbeats 4000000 in
theorem ok_X7_starOf {X : Xb} {S : Sg} {mi : Mem} {o n : Nat} {A : Nat → Int32} {v w : Int32} (hM : MdA S o) (hn8 : n ≤ 8) (hA : mi (o + 1) = A) (hn : A 1 = nI n) : Ok 5 0 0 fX7_starOf X [rf X o, .int v, .int w] S mi (PM S mi o (mStarOf A n v w, A, n)) := by
  refine Ok.go [some (rf X o), some (.int v), some (.int w)] (by decide) (by simp [Value.category]) (Nat.le_of_ble_eq_true rfl) rfl ?_
  obtain ⟨k_o, ⟨r_o_now, k_o_now⟩, ⟨r_o_image, k_o_image⟩, ⟨r_o_aside, k_o_aside⟩, ⟨r_o_seen, k_o_seen⟩, ⟨r_o_unlike, k_o_unlike⟩, ⟨r_o_tape, k_o_tape⟩, ⟨r_o_keys, k_o_keys⟩, ⟨r_o_keyAt, k_o_keyAt⟩, ⟨r_o_code, k_o_code⟩, ⟨r_o_waits, k_o_waits⟩, ⟨r_o_tested, k_o_tested⟩, ⟨r_o_stack, k_o_stack⟩, ⟨r_o_facts, k_o_facts⟩, ⟨r_o_sorts, k_o_sorts⟩, ⟨r_o_sizes, k_o_sizes⟩, ⟨r_o_cells, k_o_cells⟩, ⟨r_o_holds, k_o_holds⟩, ⟨r_o_holdsA, k_o_holdsA⟩, ⟨r_o_holdsB, k_o_holdsB⟩, ⟨r_o_heldCells, k_o_heldCells⟩, ⟨r_o_moved, k_o_moved⟩, ⟨r_o_tells, k_o_tells⟩⟩ := id hM
  subst hA
  have z := FrM.rf o mi
  have bad : ¬ (0 ≤ w ∧ w ≤ 3) → mStarOf (mi (o + 1)) n v w = BADi := by
    intro h
    have w0 : ¬ w = 0 := fun e => h (by subst e; decide)
    have w1 : ¬ w = 1 := fun e => h (by subst e; decide)
    have w2 : ¬ w = 2 := fun e => h (by subst e; decide)
    have w3 : ¬ w = 3 := fun e => h (by subst e; decide)
    simp only [mStarOf, w0, w1, w2, w3, if_false, ite_self]
  refine mw_iload_n dX7_starOf_0 rfl ?_
  refine mw_cSI (g := fX7_isStar) dX7_starOf_1 ml_X7_145 mfX7_isStar (ok_X7_isStar) rfl rfl (Nat.le_of_ble_eq_true rfl) ⟨by decide, by decide⟩ ⟨by decide, by decide⟩ ?_
  refine mw_if_eqB (tgt := 16) dX7_starOf_4 (by decide) (fun h4 => ?_) (fun h4 => ?_)
  · skip
    refine mw_ldc dX7_starOf_16 cn_X7_127 ?_
    exact mw_iret dX7_starOf_18 rfl (by decide) (by decide) (by first | exact ⟨by rw [mStarOf, if_neg h4], rfl, rfl, z⟩ | exact ⟨by rw [bad h13], rfl, rfl, z⟩ | fail "leaf")
  · skip
    refine mw_iload_n dX7_starOf_7 rfl ?_
    refine mw_iconst (v := 0) dX7_starOf_8 (by decide) ?_
    refine mw_iconst (v := 3) dX7_starOf_9 (by decide) ?_
    refine mw_cSI (g := fX7_in) dX7_starOf_10 ml_X7_78 mfX7_in (ok_X7_in) rfl rfl (Nat.le_of_ble_eq_true rfl) ⟨by decide, by decide⟩ ⟨by decide, by decide⟩ ?_
    refine mw_if_neB (tgt := 19) dX7_starOf_13 (by decide) (fun h13 => ?_) (fun h13 => ?_)
    · skip
      obtain ⟨a, ha, rfl⟩ := in7 h4
      obtain ⟨q, hq, rfl⟩ := in3 h13
      have ecl : (nI a).toNatClampNeg = a := nI_clamp (by omega)
      refine mw_iload_n dX7_starOf_19 rfl ?_
      refine mw_iconst (v := 2) dX7_starOf_20 (by decide) ?_
      refine mw_icmp_ge (tgt := 41) dX7_starOf_21 (by decide) (fun h21 => ?_) (fun h21 => ?_)
      · skip
        refine mw_iload_n dX7_starOf_41 rfl ?_
        refine mw_iconst (v := 2) dX7_starOf_42 (by decide) ?_
        refine mw_icmp_ne (tgt := 54) dX7_starOf_43 (by decide) (fun h43 => ?_) (fun h43 => ?_)
        · skip
          have q3 : q = 3 := by
            have c2 : ¬ q < 2 := fun c => absurd h21 (nI_ge (b := 2) c (by decide))
            have c3 : q ≠ 2 := fun c => h43 (by rw [c]; rfl)
            omega
          refine mw_aload_n dX7_starOf_54 rfl ?_
          refine mw_iload_n dX7_starOf_55 rfl ?_
          refine mw_cVI (g := fX7_seers) dX7_starOf_56 ml_X7_148 mfX7_seers (ok_X7_seers hM hn hn8) (by assumption) rfl rfl (Nat.le_of_ble_eq_true rfl) ⟨by decide, by decide⟩ ⟨by decide, by decide⟩ ?_
          exact mw_iret dX7_starOf_59 rfl (by decide) (by decide) (by first | exact ⟨by rw [mStarOf, if_pos h4, ecl, q3]; rfl, rfl, rfl, z⟩ | exact ⟨by rw [mStarOf, if_pos h4, ecl, h43]; rfl, rfl, rfl, z⟩ | exact ⟨by rw [mStarOf_f h4 ha hq2], rfl, rfl, z⟩ | fail "leaf")
        · skip
          refine mw_aload_n dX7_starOf_46 rfl ?_
          refine mw_iload_n dX7_starOf_47 rfl ?_
          refine mw_cVI (g := fX7_standsAt) dX7_starOf_48 ml_X7_97 mfX7_standsAt (ok_X7_standsAt hM ha) (by assumption) rfl rfl (Nat.le_of_ble_eq_true rfl) ⟨by decide, by decide⟩ ⟨by decide, by decide⟩ ?_
          refine mw_goto (tgt := 59) dX7_starOf_51 (by decide) ?_
          exact mw_iret dX7_starOf_59 rfl (by decide) (by decide) (by first | exact ⟨by rw [mStarOf, if_pos h4, ecl, q3]; rfl, rfl, rfl, z⟩ | exact ⟨by rw [mStarOf, if_pos h4, ecl, h43]; rfl, rfl, rfl, z⟩ | exact ⟨by rw [mStarOf_f h4 ha hq2], rfl, rfl, z⟩ | fail "leaf")
      · skip
        have hq2 : q < 2 := (nI_ltI (b := 2) (by omega) (by decide)).mp (Int32.not_le.mp h21)
        refine mw_aload_n dX7_starOf_24 rfl ?_
        refine mw_getr dX7_starOf_25 fl_X7_9 rfl (by assumption) (by assumption) ?_
        refine mw_bipush (v := 10) dX7_starOf_28 (by decide) ?_
        refine mw_bipush (v := 8) dX7_starOf_30 (by decide) ?_
        refine mw_iload_n dX7_starOf_32 rfl ?_
        refine mw_imul dX7_starOf_33 ?_
        refine mw_iadd dX7_starOf_34 ?_
        refine mw_iload_n dX7_starOf_35 rfl ?_
        refine mw_iadd dX7_starOf_36 ?_
        refine mw_ialdK (k := 10 + 8 * q + a) dX7_starOf_37 (by assumption) (ixS q a) (by omega) (by decide) ?_
        refine mw_goto (tgt := 59) dX7_starOf_38 (by decide) ?_
        exact mw_iret dX7_starOf_59 rfl (by decide) (by decide) (by first | exact ⟨by rw [mStarOf, if_pos h4, ecl, q3]; rfl, rfl, rfl, z⟩ | exact ⟨by rw [mStarOf, if_pos h4, ecl, h43]; rfl, rfl, rfl, z⟩ | exact ⟨by rw [mStarOf_f h4 ha hq2], rfl, rfl, z⟩ | fail "leaf")
    · skip
      refine mw_ldc dX7_starOf_16 cn_X7_127 ?_
      exact mw_iret dX7_starOf_18 rfl (by decide) (by decide) (by first | exact ⟨by rw [mStarOf, if_neg h4], rfl, rfl, z⟩ | exact ⟨by rw [bad h13], rfl, rfl, z⟩ | fail "leaf")
theorem dX7_smokes_0 : decode fX7_smokes.2.1 0 = .ok (.iload_n 1, 1) := by decide +kernel
theorem dX7_smokes_1 : decode fX7_smokes.2.1 1 = .ok (.invokestatic 123, 3) := by decide +kernel
theorem dX7_smokes_4 : decode fX7_smokes.2.1 4 = .ok (.ifCond .eq 17, 3) := by decide +kernel
theorem dX7_smokes_7 : decode fX7_smokes.2.1 7 = .ok (.aload_n 0, 1) := by decide +kernel
theorem dX7_smokes_8 : decode fX7_smokes.2.1 8 = .ok (.getfield 9, 3) := by decide +kernel
theorem dX7_smokes_11 : decode fX7_smokes.2.1 11 = .ok (.bipush 9, 2) := by decide +kernel
theorem dX7_smokes_13 : decode fX7_smokes.2.1 13 = .ok (.iaload, 1) := by decide +kernel
theorem dX7_smokes_14 : decode fX7_smokes.2.1 14 = .ok (.iload_n 1, 1) := by decide +kernel
theorem dX7_smokes_15 : decode fX7_smokes.2.1 15 = .ok (.ishr, 1) := by decide +kernel
theorem dX7_smokes_16 : decode fX7_smokes.2.1 16 = .ok (.iconst 1, 1) := by decide +kernel
theorem dX7_smokes_17 : decode fX7_smokes.2.1 17 = .ok (.iand, 1) := by decide +kernel
theorem dX7_smokes_18 : decode fX7_smokes.2.1 18 = .ok (.goto 5, 3) := by decide +kernel
theorem dX7_smokes_21 : decode fX7_smokes.2.1 21 = .ok (.ldc 127, 2) := by decide +kernel
theorem dX7_smokes_23 : decode fX7_smokes.2.1 23 = .ok (.ireturn, 1) := by decide +kernel
set_option maxRecDepth 100000 in
set_option maxHeartbeats 4000000 in
theorem ok_X7_smokes {X : Xb} {S : Sg} {mi : Mem} {o n : Nat} {A : Nat → Int32} {b : Int32} (hM : MdA S o) (hn8 : n ≤ 8) (hA : mi (o + 1) = A) (hn : A 1 = nI n) : Ok 2 0 0 fX7_smokes X [rf X o, .int b] S mi (PM S mi o (sSmokes A b, A, n)) := by
  refine Ok.go [some (rf X o), some (.int b)] (by decide) (by simp [Value.category]) (Nat.le_of_ble_eq_true rfl) rfl ?_
  obtain ⟨k_o, ⟨r_o_now, k_o_now⟩, ⟨r_o_image, k_o_image⟩, ⟨r_o_aside, k_o_aside⟩, ⟨r_o_seen, k_o_seen⟩, ⟨r_o_unlike, k_o_unlike⟩, ⟨r_o_tape, k_o_tape⟩, ⟨r_o_keys, k_o_keys⟩, ⟨r_o_keyAt, k_o_keyAt⟩, ⟨r_o_code, k_o_code⟩, ⟨r_o_waits, k_o_waits⟩, ⟨r_o_tested, k_o_tested⟩, ⟨r_o_stack, k_o_stack⟩, ⟨r_o_facts, k_o_facts⟩, ⟨r_o_sorts, k_o_sorts⟩, ⟨r_o_sizes, k_o_sizes⟩, ⟨r_o_cells, k_o_cells⟩, ⟨r_o_holds, k_o_holds⟩, ⟨r_o_holdsA, k_o_holdsA⟩, ⟨r_o_holdsB, k_o_holdsB⟩, ⟨r_o_heldCells, k_o_heldCells⟩, ⟨r_o_moved, k_o_moved⟩, ⟨r_o_tells, k_o_tells⟩⟩ := id hM
  subst hA
  have z := FrM.rf o mi
  refine mw_iload_n dX7_smokes_0 rfl ?_
  refine mw_cSI (g := fX7_isBearing) dX7_smokes_1 ml_X7_123 mfX7_isBearing (ok_X7_isBearing) rfl rfl (Nat.le_of_ble_eq_true rfl) ⟨by decide, by decide⟩ ⟨by decide, by decide⟩ ?_
  refine mw_if_eqB (tgt := 21) dX7_smokes_4 (by decide) (fun h4 => ?_) (fun h4 => ?_)
  · skip
    refine mw_ldc dX7_smokes_21 cn_X7_127 ?_
    exact mw_iret dX7_smokes_23 rfl (by decide) (by decide) (by first | (rw [sSmokes, if_pos h4]; exact ⟨rfl, rfl, rfl, z⟩) | (rw [sSmokes, if_neg h4]; exact ⟨rfl, rfl, rfl, z⟩) | fail "leaf")
  · skip
    refine mw_aload_n dX7_smokes_7 rfl ?_
    refine mw_getr dX7_smokes_8 fl_X7_9 rfl (by assumption) (by assumption) ?_
    refine mw_bipush (v := 9) dX7_smokes_11 (by decide) ?_
    refine mw_ialdK (k := 9) dX7_smokes_13 (by assumption) (rfl) (by decide) (by decide) ?_
    refine mw_iload_n dX7_smokes_14 rfl ?_
    refine mw_ishr dX7_smokes_15 ?_
    refine mw_iconst (v := 1) dX7_smokes_16 (by decide) ?_
    refine mw_iand dX7_smokes_17 ?_
    refine mw_goto (tgt := 23) dX7_smokes_18 (by decide) ?_
    exact mw_iret dX7_smokes_23 rfl (by decide) (by decide) (by first | (rw [sSmokes, if_pos h4]; exact ⟨rfl, rfl, rfl, z⟩) | (rw [sSmokes, if_neg h4]; exact ⟨rfl, rfl, rfl, z⟩) | fail "leaf")
theorem dX7_seed_0 : decode fX7_seed.2.1 0 = .ok (.aload_n 0, 1) := by decide +kernel
theorem dX7_seed_1 : decode fX7_seed.2.1 1 = .ok (.iconst 0, 1) := by decide +kernel
theorem dX7_seed_2 : decode fX7_seed.2.1 2 = .ok (.iload_n 1, 1) := by decide +kernel
theorem dX7_seed_3 : decode fX7_seed.2.1 3 = .ok (.invokevirtual 142, 3) := by decide +kernel
theorem dX7_seed_6 : decode fX7_seed.2.1 6 = .ok (.ireturn, 1) := by decide +kernel
set_option maxRecDepth 100000 in
set_option maxHeartbeats 4000000 in
theorem ok_X7_seed {X : Xb} {S : Sg} {mi : Mem} {o n : Nat} {A : Nat → Int32} {v : Int32} (hM : MdA S o) (hn8 : n ≤ 8) (hA : mi (o + 1) = A) (hn : A 1 = nI n) : Ok 2 0 0 fX7_seed X [rf X o, .int v] S mi (PM S mi o (A 0, upd A 0 v, n)) := by
  refine Ok.go [some (rf X o), some (.int v)] (by decide) (by simp [Value.category]) (Nat.le_of_ble_eq_true rfl) rfl ?_
  obtain ⟨k_o, ⟨r_o_now, k_o_now⟩, ⟨r_o_image, k_o_image⟩, ⟨r_o_aside, k_o_aside⟩, ⟨r_o_seen, k_o_seen⟩, ⟨r_o_unlike, k_o_unlike⟩, ⟨r_o_tape, k_o_tape⟩, ⟨r_o_keys, k_o_keys⟩, ⟨r_o_keyAt, k_o_keyAt⟩, ⟨r_o_code, k_o_code⟩, ⟨r_o_waits, k_o_waits⟩, ⟨r_o_tested, k_o_tested⟩, ⟨r_o_stack, k_o_stack⟩, ⟨r_o_facts, k_o_facts⟩, ⟨r_o_sorts, k_o_sorts⟩, ⟨r_o_sizes, k_o_sizes⟩, ⟨r_o_cells, k_o_cells⟩, ⟨r_o_holds, k_o_holds⟩, ⟨r_o_holdsA, k_o_holdsA⟩, ⟨r_o_holdsB, k_o_holdsB⟩, ⟨r_o_heldCells, k_o_heldCells⟩, ⟨r_o_moved, k_o_moved⟩, ⟨r_o_tells, k_o_tells⟩⟩ := id hM
  subst hA
  refine mw_aload_n dX7_seed_0 rfl ?_
  refine mw_iconst (v := 0) dX7_seed_1 (by decide) ?_
  refine mw_iload_n dX7_seed_2 rfl ?_
  refine mw_cVI (g := fX7_swaps) dX7_seed_3 ml_X7_142 mfX7_swaps (ok_X7_swaps hM (s := 0) (by decide)) (by assumption) rfl rfl (Nat.le_of_ble_eq_true rfl) ⟨by decide, by decide⟩ ⟨by decide, by decide⟩ ?_
  exact mw_iret dX7_seed_6 rfl (by decide) (by decide) (⟨rfl, rfl, m_up_row _ _ _ _, (FrM.rf o mi).up⟩)
