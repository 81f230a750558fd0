/-! the model's calls: hours, chimney, deal, town -/
def mHoursS (lw : LawT) (A : Nat → Int32) (n h : Nat) (v : Int32) : Sp := if 1 ≤ v ∧ v ≤ 100 then (mHours lw n A (min v.toNatClampNeg (9999 - h)) 3 - A 3, mHours lw n A (min v.toNatClampNeg (9999 - h)), n) else (BADi, A, n)
theorem clamp_nI {a q : Nat} (ha : a < 2 ^ 31) (hq : q < 2 ^ 31) : clampI (nI a) 0 (nI q) = nI (min q a) := by
  rw [clampI, if_neg (nI_pos ha)]
  by_cases c : q < a
  · rw [if_pos (nI_lt c ha)]; congr 1; omega
  · rw [if_neg (nI_nlt (by omega) hq)]; congr 1; omega
theorem dX7_hours_0 : decode fX7_hours.2.1 0 = .ok (.iload_n 1, 1) := by decide +kernel
theorem dX7_hours_1 : decode fX7_hours.2.1 1 = .ok (.iconst 1, 1) := by decide +kernel
theorem dX7_hours_2 : decode fX7_hours.2.1 2 = .ok (.bipush 100, 2) := by decide +kernel
theorem dX7_hours_4 : decode fX7_hours.2.1 4 = .ok (.invokestatic 78, 3) := by decide +kernel
theorem dX7_hours_7 : decode fX7_hours.2.1 7 = .ok (.ifCond .ne 6, 3) := by decide +kernel
theorem dX7_hours_10 : decode fX7_hours.2.1 10 = .ok (.ldc 127, 2) := by decide +kernel
theorem dX7_hours_12 : decode fX7_hours.2.1 12 = .ok (.ireturn, 1) := by decide +kernel
theorem dX7_hours_13 : decode fX7_hours.2.1 13 = .ok (.aload_n 0, 1) := by decide +kernel
theorem dX7_hours_14 : decode fX7_hours.2.1 14 = .ok (.getfield 9, 3) := by decide +kernel
theorem dX7_hours_17 : decode fX7_hours.2.1 17 = .ok (.iconst 3, 1) := by decide +kernel
theorem dX7_hours_18 : decode fX7_hours.2.1 18 = .ok (.iaload, 1) := by decide +kernel
theorem dX7_hours_19 : decode fX7_hours.2.1 19 = .ok (.istore_n 2, 1) := by decide +kernel
theorem dX7_hours_20 : decode fX7_hours.2.1 20 = .ok (.aload_n 0, 1) := by decide +kernel
theorem dX7_hours_21 : decode fX7_hours.2.1 21 = .ok (.sipush 9999, 3) := by decide +kernel
theorem dX7_hours_24 : decode fX7_hours.2.1 24 = .ok (.aload_n 0, 1) := by decide +kernel
theorem dX7_hours_25 : decode fX7_hours.2.1 25 = .ok (.getfield 9, 3) := by decide +kernel
theorem dX7_hours_28 : decode fX7_hours.2.1 28 = .ok (.iconst 2, 1) := by decide +kernel
theorem dX7_hours_29 : decode fX7_hours.2.1 29 = .ok (.iaload, 1) := by decide +kernel
theorem dX7_hours_30 : decode fX7_hours.2.1 30 = .ok (.isub, 1) := by decide +kernel
theorem dX7_hours_31 : decode fX7_hours.2.1 31 = .ok (.iconst 0, 1) := by decide +kernel
theorem dX7_hours_32 : decode fX7_hours.2.1 32 = .ok (.iload_n 1, 1) := by decide +kernel
theorem dX7_hours_33 : decode fX7_hours.2.1 33 = .ok (.invokestatic 82, 3) := by decide +kernel
theorem dX7_hours_36 : decode fX7_hours.2.1 36 = .ok (.invokevirtual 163, 3) := by decide +kernel
theorem dX7_hours_39 : decode fX7_hours.2.1 39 = .ok (.aload_n 0, 1) := by decide +kernel
theorem dX7_hours_40 : decode fX7_hours.2.1 40 = .ok (.getfield 9, 3) := by decide +kernel
theorem dX7_hours_43 : decode fX7_hours.2.1 43 = .ok (.iconst 3, 1) := by decide +kernel
theorem dX7_hours_44 : decode fX7_hours.2.1 44 = .ok (.iaload, 1) := by decide +kernel
theorem dX7_hours_45 : decode fX7_hours.2.1 45 = .ok (.iload_n 2, 1) := by decide +kernel
theorem dX7_hours_46 : decode fX7_hours.2.1 46 = .ok (.isub, 1) := by decide +kernel
theorem dX7_hours_47 : decode fX7_hours.2.1 47 = .ok (.ireturn, 1) := by decide +kernel
set_option maxRecDepth 100000 in
set_option maxHeartbeats 4000000 in
theorem ok_X7_hours {X : Xb} {S : Sg} {mi : Mem} {o n t h : Nat} {A : Nat → Int32} {lw : LawT} {v : Int32} (hM : MdA S o) (hn8 : n ≤ 8) (hA : mi (o + 1) = A) (hn : A 1 = nI n) (ht : A 5 = nI t) (ht14 : t ≤ 14) (hx : MtOk A t) (hl : lwM A 0 t = lw) (hh : A 2 = nI h) (h99 : h ≤ 9999) : Ok 8 0 0 fX7_hours X [rf X o, .int v] S mi (PM S mi o (mHoursS lw A n h v)) := by
  refine Ok.go [some (rf X o), some (.int v), none] (by decide) (by simp [Value.category]) (Nat.le_of_ble_eq_true rfl) rfl ?_
  obtain ⟨k_o, ⟨r_o_now, k_o_now⟩, ⟨r_o_image, k_o_image⟩, ⟨r_o_aside, k_o_aside⟩, ⟨r_o_seen, k_o_seen⟩, ⟨r_o_unlike, k_o_unlike⟩, ⟨r_o_tape, k_o_tape⟩, ⟨r_o_keys, k_o_keys⟩, ⟨r_o_keyAt, k_o_keyAt⟩, ⟨r_o_code, k_o_code⟩, ⟨r_o_waits, k_o_waits⟩, ⟨r_o_tested, k_o_tested⟩, ⟨r_o_stack, k_o_stack⟩, ⟨r_o_facts, k_o_facts⟩, ⟨r_o_sorts, k_o_sorts⟩, ⟨r_o_sizes, k_o_sizes⟩, ⟨r_o_cells, k_o_cells⟩, ⟨r_o_holds, k_o_holds⟩, ⟨r_o_holdsA, k_o_holdsA⟩, ⟨r_o_holdsB, k_o_holdsB⟩, ⟨r_o_heldCells, k_o_heldCells⟩, ⟨r_o_moved, k_o_moved⟩, ⟨r_o_tells, k_o_tells⟩⟩ := id hM
  have z := FrM.rf o mi
  have e2 : mi (o + 1) 2 = nI h := by rw [hA, hh]
  have e3 : mi (o + 1) 3 = A 3 := by rw [hA]
  refine mw_iload_n dX7_hours_0 rfl ?_
  refine mw_iconst (v := 1) dX7_hours_1 (by decide) ?_
  refine mw_bipush (v := 100) dX7_hours_2 (by decide) ?_
  refine mw_cSI (g := fX7_in) dX7_hours_4 ml_X7_78 mfX7_in (ok_X7_in) rfl rfl (Nat.le_of_ble_eq_true rfl) ⟨by decide, by decide⟩ ⟨by decide, by decide⟩ ?_
  refine mw_if_neB (tgt := 13) dX7_hours_7 (by decide) (fun h7 => ?_) (fun h7 => ?_)
  · skip
    obtain ⟨q, q1, q100, hv⟩ := in100 h7
    have ecl : v.toNatClampNeg = q := by rw [hv, nI_clamp (by omega)]
    refine mw_aload_n dX7_hours_13 rfl ?_
    refine mw_getr dX7_hours_14 fl_X7_9 rfl (by assumption) (by assumption) ?_
    refine mw_iconst (v := 3) dX7_hours_17 (by decide) ?_
    refine mw_ialdK (k := 3) dX7_hours_18 (by assumption) (rfl) (by decide) (by decide) ?_
    rw [e3]
    refine mw_istN 2 dX7_hours_19 rfl (by decide) ?_
    refine mw_aload_n dX7_hours_20 rfl ?_
    refine mw_sipush (v := 9999) dX7_hours_21 (by decide) ?_
    refine mw_aload_n dX7_hours_24 rfl ?_
    refine mw_getr dX7_hours_25 fl_X7_9 rfl (by assumption) (by assumption) ?_
    refine mw_iconst (v := 2) dX7_hours_28 (by decide) ?_
    refine mw_ialdK (k := 2) dX7_hours_29 (by assumption) (rfl) (by decide) (by decide) ?_
    rw [e2]
    refine mw_isub dX7_hours_30 ?_
    rw [show (9999 : Int32) - nI h = nI (9999 - h) from pk_sub (a := 9999) h99]
    refine mw_iconst (v := 0) dX7_hours_31 (by decide) ?_
    refine mw_iload_n dX7_hours_32 rfl ?_
    refine mw_cSI (g := fX7_within) dX7_hours_33 ml_X7_82 mfX7_within (ok_X7_within) rfl rfl (Nat.le_of_ble_eq_true rfl) ⟨by decide, by decide⟩ ⟨by decide, by decide⟩ ?_
    rw [hv, clamp_nI (by omega) (by omega)]
    refine mw_callV (g := fX7_goesOn) dX7_hours_36 ml_X7_163 mfX7_goesOn (ok_X7_goesOn (q := min q (9999 - h)) hM hn8 hA hn ht ht14 hx hl (by omega)) (by assumption) rfl rfl (Nat.le_of_ble_eq_true rfl) ⟨by decide, by decide⟩ ⟨by decide, by decide⟩ (fun r S2 mi2 hp => ?_)
    obtain ⟨rfl, e1, e4, e5⟩ := hp
    rw [e1]
    refine mw_aload_n dX7_hours_39 rfl ?_
    refine mw_getr dX7_hours_40 fl_X7_9 rfl (by assumption) (by assumption) ?_
    refine mw_iconst (v := 3) dX7_hours_43 (by decide) ?_
    refine mw_ialdK (k := 3) dX7_hours_44 (by assumption) (rfl) (by decide) (by decide) ?_
    rw [e4]
    refine mw_iload_n dX7_hours_45 rfl ?_
    refine mw_isub dX7_hours_46 ?_
    exact mw_iret dX7_hours_47 rfl (by decide) (by decide) (by rw [← hv, mHoursS, if_pos h7, ecl]; exact ⟨rfl, rfl, e4, e5⟩)
  · skip
    refine mw_ldc dX7_hours_10 cn_X7_127 ?_
    exact mw_iret dX7_hours_12 rfl (by decide) (by decide) (by rw [mHoursS, if_neg h7]; exact ⟨rfl, rfl, hA, z⟩)
def mChim (A : Nat → Int32) (n : Nat) (b v : Int32) : Sp := if (0 ≤ b ∧ b ≤ 23) ∧ (0 ≤ v ∧ v ≤ 1) then (A 9 >>> (b &&& 31) &&& 1, upd A 9 (if v = 1 then A 9 ||| (1 <<< (b &&& 31)) else A 9 &&& ((1 <<< (b &&& 31)) ^^^ (-1))), n) else (BADi, A, n)
theorem dX7_chimney_0 : decode fX7_chimney.2.1 0 = .ok (.iload_n 1, 1) := by decide +kernel
theorem dX7_chimney_1 : decode fX7_chimney.2.1 1 = .ok (.invokestatic 123, 3) := by decide +kernel
theorem dX7_chimney_4 : decode fX7_chimney.2.1 4 = .ok (.ifCond .eq 12, 3) := by decide +kernel
theorem dX7_chimney_7 : decode fX7_chimney.2.1 7 = .ok (.iload_n 2, 1) := by decide +kernel
theorem dX7_chimney_8 : decode fX7_chimney.2.1 8 = .ok (.iconst 0, 1) := by decide +kernel
theorem dX7_chimney_9 : decode fX7_chimney.2.1 9 = .ok (.iconst 1, 1) := by decide +kernel
theorem dX7_chimney_10 : decode fX7_chimney.2.1 10 = .ok (.invokestatic 78, 3) := by decide +kernel
theorem dX7_chimney_13 : decode fX7_chimney.2.1 13 = .ok (.ifCond .ne 6, 3) := by decide +kernel
theorem dX7_chimney_16 : decode fX7_chimney.2.1 16 = .ok (.ldc 127, 2) := by decide +kernel
theorem dX7_chimney_18 : decode fX7_chimney.2.1 18 = .ok (.ireturn, 1) := by decide +kernel
theorem dX7_chimney_19 : decode fX7_chimney.2.1 19 = .ok (.aload_n 0, 1) := by decide +kernel
theorem dX7_chimney_20 : decode fX7_chimney.2.1 20 = .ok (.getfield 9, 3) := by decide +kernel
theorem dX7_chimney_23 : decode fX7_chimney.2.1 23 = .ok (.bipush 9, 2) := by decide +kernel
theorem dX7_chimney_25 : decode fX7_chimney.2.1 25 = .ok (.iaload, 1) := by decide +kernel
theorem dX7_chimney_26 : decode fX7_chimney.2.1 26 = .ok (.iload_n 1, 1) := by decide +kernel
theorem dX7_chimney_27 : decode fX7_chimney.2.1 27 = .ok (.ishr, 1) := by decide +kernel
theorem dX7_chimney_28 : decode fX7_chimney.2.1 28 = .ok (.iconst 1, 1) := by decide +kernel
theorem dX7_chimney_29 : decode fX7_chimney.2.1 29 = .ok (.iand, 1) := by decide +kernel
theorem dX7_chimney_30 : decode fX7_chimney.2.1 30 = .ok (.istore_n 3, 1) := by decide +kernel
theorem dX7_chimney_31 : decode fX7_chimney.2.1 31 = .ok (.aload_n 0, 1) := by decide +kernel
theorem dX7_chimney_32 : decode fX7_chimney.2.1 32 = .ok (.getfield 9, 3) := by decide +kernel
theorem dX7_chimney_35 : decode fX7_chimney.2.1 35 = .ok (.bipush 9, 2) := by decide +kernel
theorem dX7_chimney_37 : decode fX7_chimney.2.1 37 = .ok (.iload_n 2, 1) := by decide +kernel
theorem dX7_chimney_38 : decode fX7_chimney.2.1 38 = .ok (.iconst 1, 1) := by decide +kernel
theorem dX7_chimney_39 : decode fX7_chimney.2.1 39 = .ok (.if_icmp .ne 17, 3) := by decide +kernel
theorem dX7_chimney_42 : decode fX7_chimney.2.1 42 = .ok (.aload_n 0, 1) := by decide +kernel
theorem dX7_chimney_43 : decode fX7_chimney.2.1 43 = .ok (.getfield 9, 3) := by decide +kernel
theorem dX7_chimney_46 : decode fX7_chimney.2.1 46 = .ok (.bipush 9, 2) := by decide +kernel
theorem dX7_chimney_48 : decode fX7_chimney.2.1 48 = .ok (.iaload, 1) := by decide +kernel
theorem dX7_chimney_49 : decode fX7_chimney.2.1 49 = .ok (.iconst 1, 1) := by decide +kernel
theorem dX7_chimney_50 : decode fX7_chimney.2.1 50 = .ok (.iload_n 1, 1) := by decide +kernel
theorem dX7_chimney_51 : decode fX7_chimney.2.1 51 = .ok (.ishl, 1) := by decide +kernel
theorem dX7_chimney_52 : decode fX7_chimney.2.1 52 = .ok (.ior, 1) := by decide +kernel
theorem dX7_chimney_53 : decode fX7_chimney.2.1 53 = .ok (.goto 16, 3) := by decide +kernel
theorem dX7_chimney_56 : decode fX7_chimney.2.1 56 = .ok (.aload_n 0, 1) := by decide +kernel
theorem dX7_chimney_57 : decode fX7_chimney.2.1 57 = .ok (.getfield 9, 3) := by decide +kernel
theorem dX7_chimney_60 : decode fX7_chimney.2.1 60 = .ok (.bipush 9, 2) := by decide +kernel
theorem dX7_chimney_62 : decode fX7_chimney.2.1 62 = .ok (.iaload, 1) := by decide +kernel
theorem dX7_chimney_63 : decode fX7_chimney.2.1 63 = .ok (.iconst 1, 1) := by decide +kernel
theorem dX7_chimney_64 : decode fX7_chimney.2.1 64 = .ok (.iload_n 1, 1) := by decide +kernel
theorem dX7_chimney_65 : decode fX7_chimney.2.1 65 = .ok (.ishl, 1) := by decide +kernel
theorem dX7_chimney_66 : decode fX7_chimney.2.1 66 = .ok (.iconst (-1), 1) := by decide +kernel
theorem dX7_chimney_67 : decode fX7_chimney.2.1 67 = .ok (.ixor, 1) := by decide +kernel
theorem dX7_chimney_68 : decode fX7_chimney.2.1 68 = .ok (.iand, 1) := by decide +kernel
theorem dX7_chimney_69 : decode fX7_chimney.2.1 69 = .ok (.iastore, 1) := by decide +kernel
theorem dX7_chimney_70 : decode fX7_chimney.2.1 70 = .ok (.iload_n 3, 1) := by decide +kernel
theorem dX7_chimney_71 : decode fX7_chimney.2.1 71 = .ok (.ireturn, 1) := by decide +kernel
set_option maxRecDepth 100000 in
set_option maxHeartbeats 4000000 in
theorem ok_X7_chimney {X : Xb} {S : Sg} {mi : Mem} {o n : Nat} {A : Nat → Int32} {b v : Int32} (hM : MdA S o) (hn8 : n ≤ 8) (hA : mi (o + 1) = A) (hn : A 1 = nI n) : Ok 2 0 0 fX7_chimney X [rf X o, .int b, .int v] S mi (PM S mi o (mChim A n b v)) := by
  refine Ok.go [some (rf X o), some (.int b), some (.int v), none] (by decide) (by simp [Value.category]) (Nat.le_of_ble_eq_true rfl) rfl ?_
  obtain ⟨k_o, ⟨r_o_now, k_o_now⟩, ⟨r_o_image, k_o_image⟩, ⟨r_o_aside, k_o_aside⟩, ⟨r_o_seen, k_o_seen⟩, ⟨r_o_unlike, k_o_unlike⟩, ⟨r_o_tape, k_o_tape⟩, ⟨r_o_keys, k_o_keys⟩, ⟨r_o_keyAt, k_o_keyAt⟩, ⟨r_o_code, k_o_code⟩, ⟨r_o_waits, k_o_waits⟩, ⟨r_o_tested, k_o_tested⟩, ⟨r_o_stack, k_o_stack⟩, ⟨r_o_facts, k_o_facts⟩, ⟨r_o_sorts, k_o_sorts⟩, ⟨r_o_sizes, k_o_sizes⟩, ⟨r_o_cells, k_o_cells⟩, ⟨r_o_holds, k_o_holds⟩, ⟨r_o_holdsA, k_o_holdsA⟩, ⟨r_o_holdsB, k_o_holdsB⟩, ⟨r_o_heldCells, k_o_heldCells⟩, ⟨r_o_moved, k_o_moved⟩, ⟨r_o_tells, k_o_tells⟩⟩ := id hM
  have z := FrM.rf o mi
  have e9 : mi (o + 1) 9 = A 9 := by rw [hA]
  refine mw_iload_n dX7_chimney_0 rfl ?_
  refine mw_cSI (g := fX7_isBearing) dX7_chimney_1 ml_X7_123 mfX7_isBearing (ok_X7_isBearing) rfl rfl (Nat.le_of_ble_eq_true rfl) ⟨by decide, by decide⟩ ⟨by decide, by decide⟩ ?_
  refine mw_if_eqB (tgt := 16) dX7_chimney_4 (by decide) (fun h4 => ?_) (fun h4 => ?_)
  · skip
    refine mw_ldc dX7_chimney_16 cn_X7_127 ?_
    exact mw_iret dX7_chimney_18 rfl (by decide) (by decide) (by rw [mChim, if_neg (by grind)]; exact ⟨rfl, rfl, hA, z⟩)
  · skip
    refine mw_iload_n dX7_chimney_7 rfl ?_
    refine mw_iconst (v := 0) dX7_chimney_8 (by decide) ?_
    refine mw_iconst (v := 1) dX7_chimney_9 (by decide) ?_
    refine mw_cSI (g := fX7_in) dX7_chimney_10 ml_X7_78 mfX7_in (ok_X7_in) rfl rfl (Nat.le_of_ble_eq_true rfl) ⟨by decide, by decide⟩ ⟨by decide, by decide⟩ ?_
    refine mw_if_neB (tgt := 19) dX7_chimney_13 (by decide) (fun h13 => ?_) (fun h13 => ?_)
    · skip
      refine mw_aload_n dX7_chimney_19 rfl ?_
      refine mw_getr dX7_chimney_20 fl_X7_9 rfl (by assumption) (by assumption) ?_
      refine mw_bipush (v := 9) dX7_chimney_23 (by decide) ?_
      refine mw_ialdK (k := 9) dX7_chimney_25 (by assumption) (rfl) (by decide) (by decide) ?_
      rw [e9]
      refine mw_iload_n dX7_chimney_26 rfl ?_
      refine mw_ishr dX7_chimney_27 ?_
      refine mw_iconst (v := 1) dX7_chimney_28 (by decide) ?_
      refine mw_iand dX7_chimney_29 ?_
      refine mw_istN 3 dX7_chimney_30 rfl (by decide) ?_
      refine mw_aload_n dX7_chimney_31 rfl ?_
      refine mw_getr dX7_chimney_32 fl_X7_9 rfl (by assumption) (by assumption) ?_
      refine mw_bipush (v := 9) dX7_chimney_35 (by decide) ?_
      refine mw_iload_n dX7_chimney_37 rfl ?_
      refine mw_iconst (v := 1) dX7_chimney_38 (by decide) ?_
      refine mw_icmp_ne (tgt := 56) dX7_chimney_39 (by decide) (fun h39 => ?_) (fun h39 => ?_)
      · skip
        refine mw_aload_n dX7_chimney_56 rfl ?_
        refine mw_getr dX7_chimney_57 fl_X7_9 rfl (by assumption) (by assumption) ?_
        refine mw_bipush (v := 9) dX7_chimney_60 (by decide) ?_
        refine mw_ialdK (k := 9) dX7_chimney_62 (by assumption) (rfl) (by decide) (by decide) ?_
        rw [e9]
        refine mw_iconst (v := 1) dX7_chimney_63 (by decide) ?_
        refine mw_iload_n dX7_chimney_64 rfl ?_
        refine mw_ishl dX7_chimney_65 ?_
        refine mw_iconst (v := (-1)) dX7_chimney_66 (by decide) ?_
        refine mw_ixor dX7_chimney_67 ?_
        refine mw_iand dX7_chimney_68 ?_
        refine mw_iastK (k := 9) dX7_chimney_69 (by assumption) (rfl) (by decide) (by decide) ?_
        refine mw_iload_n dX7_chimney_70 rfl ?_
        exact mw_iret dX7_chimney_71 rfl (by decide) (by decide) (by first | (rw [mChim, if_pos ⟨h4, h13⟩, if_pos h39]; exact ⟨rfl, rfl, by rw [m_up_row, hA], z.up⟩) | (rw [mChim, if_pos ⟨h4, h13⟩, if_neg h39]; exact ⟨rfl, rfl, by rw [m_up_row, hA], z.up⟩) | fail "leaf")
      · skip
        refine mw_aload_n dX7_chimney_42 rfl ?_
        refine mw_getr dX7_chimney_43 fl_X7_9 rfl (by assumption) (by assumption) ?_
        refine mw_bipush (v := 9) dX7_chimney_46 (by decide) ?_
        refine mw_ialdK (k := 9) dX7_chimney_48 (by assumption) (rfl) (by decide) (by decide) ?_
        rw [e9]
        refine mw_iconst (v := 1) dX7_chimney_49 (by decide) ?_
        refine mw_iload_n dX7_chimney_50 rfl ?_
        refine mw_ishl dX7_chimney_51 ?_
        refine mw_ior dX7_chimney_52 ?_
        refine mw_goto (tgt := 69) dX7_chimney_53 (by decide) ?_
        refine mw_iastK (k := 9) dX7_chimney_69 (by assumption) (rfl) (by decide) (by decide) ?_
        refine mw_iload_n dX7_chimney_70 rfl ?_
        exact mw_iret dX7_chimney_71 rfl (by decide) (by decide) (by first | (rw [mChim, if_pos ⟨h4, h13⟩, if_pos h39]; exact ⟨rfl, rfl, by rw [m_up_row, hA], z.up⟩) | (rw [mChim, if_pos ⟨h4, h13⟩, if_neg h39]; exact ⟨rfl, rfl, by rw [m_up_row, hA], z.up⟩) | fail "leaf")
    · skip
      refine mw_ldc dX7_chimney_16 cn_X7_127 ?_
      exact mw_iret dX7_chimney_18 rfl (by decide) (by decide) (by rw [mChim, if_neg (by grind)]; exact ⟨rfl, rfl, hA, z⟩)
set_option maxRecDepth 100000 in
set_option maxHeartbeats 4000000 in
theorem ok_X7_sumRent {X : Xb} {S : Sg} {mi : Mem} {o n t : Nat} {A : Nat → Int32} {lw : LawT} (hM : MdA S o) (hn8 : n ≤ 8) (hA : mi (o + 1) = A) (hn : A 1 = nI n) (ht : A 5 = nI t) (ht14 : t ≤ 14) (hx : MtOk A t) (hl : lwM A 0 t = lw) : Ok 5 0 0 fX7_sumOf X [rf X o, .int 5] S mi (fun r S' m => r = some (.int (fld (fun s i => s + mRent lw A i) 0 n)) ∧ S' = S ∧ ScrM o mi m) := by
  refine Ok.go [some (rf X o), some (.int 5), none, none] (by decide) (by simp [Value.category]) (Nat.le_of_ble_eq_true rfl) rfl ?_
  obtain ⟨k_o, ⟨r_o_now, k_o_now⟩, ⟨r_o_image, k_o_image⟩, ⟨r_o_aside, k_o_aside⟩, ⟨r_o_seen, k_o_seen⟩, ⟨r_o_unlike, k_o_unlike⟩, ⟨r_o_tape, k_o_tape⟩, ⟨r_o_keys, k_o_keys⟩, ⟨r_o_keyAt, k_o_keyAt⟩, ⟨r_o_code, k_o_code⟩, ⟨r_o_waits, k_o_waits⟩, ⟨r_o_tested, k_o_tested⟩, ⟨r_o_stack, k_o_stack⟩, ⟨r_o_facts, k_o_facts⟩, ⟨r_o_sorts, k_o_sorts⟩, ⟨r_o_sizes, k_o_sizes⟩, ⟨r_o_cells, k_o_cells⟩, ⟨r_o_holds, k_o_holds⟩, ⟨r_o_holdsA, k_o_holdsA⟩, ⟨r_o_holdsB, k_o_holdsB⟩, ⟨r_o_heldCells, k_o_heldCells⟩, ⟨r_o_moved, k_o_moved⟩, ⟨r_o_tells, k_o_tells⟩⟩ := id hM
  have lp := mw_dn (P := fun k => ∀ m, ScrM o mi m → MW X fX7_sumOf (rmOf 5 0 0) 0 0 4 [some (rf X o), some (.int 5), some (.int (fld (fun s i => s + mRent lw A i) 0 k)), some (.int (nI k))] [] S m (mQ X 0 0 (fun r S' m => r = some (.int (fld (fun s i => s + mRent lw A i) 0 n)) ∧ S' = S ∧ ScrM o mi m))) n (by
    intro m hs
    have em : m (o + 1) = A := (hs _ (by omega) (by omega)).trans hA
    have e1 : m (o + 1) 1 = nI n := by rw [em, hn]
    refine mw_iload_n dX7_sumOf_4 rfl ?_
    refine mw_aload_n dX7_sumOf_5 rfl ?_
    refine mw_getr dX7_sumOf_6 fl_X7_9 rfl (by assumption) (by assumption) ?_
    refine mw_iconst (v := 1) dX7_sumOf_9 (by decide) ?_
    refine mw_ialdK (k := 1) dX7_sumOf_10 (by assumption) (rfl) (by decide) (by decide) ?_
    rw [e1]
    refine mw_icmp_ge (tgt := 42) dX7_sumOf_11 (by decide) (fun h11 => ?_) (fun h11 => ?_)
    · skip
      refine mw_iload_n dX7_sumOf_42 rfl ?_
      exact mw_iret dX7_sumOf_43 rfl (by decide) (by decide) (⟨rfl, rfl, hs⟩)
    · skip
      exact absurd (Int32.le_refl _) h11) (fun k hk ih => by
    intro m hs
    have em : m (o + 1) = A := (hs _ (by omega) (by omega)).trans hA
    have e1 : m (o + 1) 1 = nI n := by rw [em, hn]
    have e5 : m (o + 1) 5 = nI t := by rw [em, ht]
    have ex : MtOk (m (o + 1)) t := by rw [em]; exact hx
    refine mw_iload_n dX7_sumOf_4 rfl ?_
    refine mw_aload_n dX7_sumOf_5 rfl ?_
    refine mw_getr dX7_sumOf_6 fl_X7_9 rfl (by assumption) (by assumption) ?_
    refine mw_iconst (v := 1) dX7_sumOf_9 (by decide) ?_
    refine mw_ialdK (k := 1) dX7_sumOf_10 (by assumption) (rfl) (by decide) (by decide) ?_
    rw [e1]
    refine mw_icmp_ge (tgt := 42) dX7_sumOf_11 (by decide) (fun h11 => ?_) (fun h11 => ?_)
    · skip
      exact absurd h11 (nI_ge hk (by omega))
    · skip
      refine mw_iload_n dX7_sumOf_14 rfl ?_
      refine mw_iload_n dX7_sumOf_15 rfl ?_
      refine mw_iconst (v := 5) dX7_sumOf_16 (by decide) ?_
      refine mw_icmp_ne (tgt := 28) dX7_sumOf_17 (by decide) (fun h17 => ?_) (fun h17 => ?_)
      · skip
        exact absurd rfl h17
      · skip
        refine mw_aload_n dX7_sumOf_20 rfl ?_
        refine mw_iload_n dX7_sumOf_21 rfl ?_
        refine mw_callV (g := fX7_rentOf) dX7_sumOf_22 ml_X7_135 mfX7_rentOf (ok_X7_rentOf hM (by omega) e5 ht14 ex) (by assumption) rfl rfl (Nat.le_of_ble_eq_true rfl) ⟨by decide, by decide⟩ ⟨by decide, by decide⟩ (fun r S2 mi2 hp => ?_)
        obtain ⟨rfl, e2, hs2⟩ := hp
        rw [e2, em, hl]
        refine mw_goto (tgt := 34) dX7_sumOf_25 (by decide) ?_
        refine mw_iadd dX7_sumOf_34 ?_
        refine mw_istN 2 dX7_sumOf_35 rfl (by decide) ?_
        refine mw_iincK (k := k) dX7_sumOf_36 rfl rfl (by decide) ?_
        refine mw_goto (tgt := 4) dX7_sumOf_39 (by decide) ?_
        exact MW.sub (by simp [lsub, fld]) (ih _ (hs.tr hs2)))
  refine mw_iconst (v := 0) dX7_sumOf_0 (by decide) ?_
  refine mw_istN 2 dX7_sumOf_1 rfl (by decide) ?_
  refine mw_iconst (v := 0) dX7_sumOf_2 (by decide) ?_
  refine mw_istN 3 dX7_sumOf_3 rfl (by decide) ?_
  exact MW.sub (by simp [lsub, fld, nI_0]) (lp mi (ScrM.rf o mi))
def mTown (lw : LawT) (A : Nat → Int32) (n : Nat) (w : Int32) : Int32 := if w = 0 then A 3 else if w = 1 then fld (fun s i => s + A (26 + 5 * i + 4)) 0 n else if w = 2 then A 4 else if w = 3 then popI (A 9) else if w = 4 then fld (fun s i => s + A (26 + 5 * i + 3)) 0 n else if w = 5 then fld (fun s i => s &&& (rSees A i ^^^ (-1))) 255 n else if w = 6 then fld (fun s i => s + mRent lw A i) 0 n else BADi
theorem dX7_town_0 : decode fX7_town.2.1 0 = .ok (.iload_n 1, 1) := by decide +kernel
theorem dX7_town_1 : decode fX7_town.2.1 1 = .ok (.tableswitch 91 0 6 #[43, 50, 56, 63, 74, 80, 85], 43) := by decide +kernel
theorem dX7_town_44 : decode fX7_town.2.1 44 = .ok (.aload_n 0, 1) := by decide +kernel
theorem dX7_town_45 : decode fX7_town.2.1 45 = .ok (.getfield 9, 3) := by decide +kernel
theorem dX7_town_48 : decode fX7_town.2.1 48 = .ok (.iconst 3, 1) := by decide +kernel
theorem dX7_town_49 : decode fX7_town.2.1 49 = .ok (.iaload, 1) := by decide +kernel
theorem dX7_town_50 : decode fX7_town.2.1 50 = .ok (.ireturn, 1) := by decide +kernel
theorem dX7_town_51 : decode fX7_town.2.1 51 = .ok (.aload_n 0, 1) := by decide +kernel
theorem dX7_town_52 : decode fX7_town.2.1 52 = .ok (.iconst 4, 1) := by decide +kernel
theorem dX7_town_53 : decode fX7_town.2.1 53 = .ok (.invokevirtual 166, 3) := by decide +kernel
theorem dX7_town_56 : decode fX7_town.2.1 56 = .ok (.ireturn, 1) := by decide +kernel
theorem dX7_town_57 : decode fX7_town.2.1 57 = .ok (.aload_n 0, 1) := by decide +kernel
theorem dX7_town_58 : decode fX7_town.2.1 58 = .ok (.getfield 9, 3) := by decide +kernel
theorem dX7_town_61 : decode fX7_town.2.1 61 = .ok (.iconst 4, 1) := by decide +kernel
theorem dX7_town_62 : decode fX7_town.2.1 62 = .ok (.iaload, 1) := by decide +kernel
theorem dX7_town_63 : decode fX7_town.2.1 63 = .ok (.ireturn, 1) := by decide +kernel
theorem dX7_town_64 : decode fX7_town.2.1 64 = .ok (.aload_n 0, 1) := by decide +kernel
theorem dX7_town_65 : decode fX7_town.2.1 65 = .ok (.getfield 9, 3) := by decide +kernel
theorem dX7_town_68 : decode fX7_town.2.1 68 = .ok (.bipush 9, 2) := by decide +kernel
theorem dX7_town_70 : decode fX7_town.2.1 70 = .ok (.iaload, 1) := by decide +kernel
theorem dX7_town_71 : decode fX7_town.2.1 71 = .ok (.invokestatic 113, 3) := by decide +kernel
theorem dX7_town_74 : decode fX7_town.2.1 74 = .ok (.ireturn, 1) := by decide +kernel
theorem dX7_town_75 : decode fX7_town.2.1 75 = .ok (.aload_n 0, 1) := by decide +kernel
theorem dX7_town_76 : decode fX7_town.2.1 76 = .ok (.iconst 3, 1) := by decide +kernel
theorem dX7_town_77 : decode fX7_town.2.1 77 = .ok (.invokevirtual 166, 3) := by decide +kernel
theorem dX7_town_80 : decode fX7_town.2.1 80 = .ok (.ireturn, 1) := by decide +kernel
theorem dX7_town_81 : decode fX7_town.2.1 81 = .ok (.aload_n 0, 1) := by decide +kernel
theorem dX7_town_82 : decode fX7_town.2.1 82 = .ok (.invokevirtual 169, 3) := by decide +kernel
theorem dX7_town_85 : decode fX7_town.2.1 85 = .ok (.ireturn, 1) := by decide +kernel
theorem dX7_town_86 : decode fX7_town.2.1 86 = .ok (.aload_n 0, 1) := by decide +kernel
theorem dX7_town_87 : decode fX7_town.2.1 87 = .ok (.iconst 5, 1) := by decide +kernel
theorem dX7_town_88 : decode fX7_town.2.1 88 = .ok (.invokevirtual 166, 3) := by decide +kernel
theorem dX7_town_91 : decode fX7_town.2.1 91 = .ok (.ireturn, 1) := by decide +kernel
theorem dX7_town_92 : decode fX7_town.2.1 92 = .ok (.ldc 127, 2) := by decide +kernel
theorem dX7_town_94 : decode fX7_town.2.1 94 = .ok (.ireturn, 1) := by decide +kernel
set_option maxRecDepth 100000 in
set_option maxHeartbeats 4000000 in
theorem ok_X7_town {X : Xb} {S : Sg} {mi : Mem} {o n t : Nat} {A : Nat → Int32} {lw : LawT} {w : Int32} (hM : MdA S o) (hn8 : n ≤ 8) (hA : mi (o + 1) = A) (hn : A 1 = nI n) (ht : A 5 = nI t) (ht14 : t ≤ 14) (hx : MtOk A t) (hl : lwM A 0 t = lw) : Ok 6 0 0 fX7_town X [rf X o, .int w] S mi (PM S mi o (mTown lw A n w, A, n)) := by
  refine Ok.go [some (rf X o), some (.int w)] (by decide) (by simp [Value.category]) (Nat.le_of_ble_eq_true rfl) rfl ?_
  obtain ⟨k_o, ⟨r_o_now, k_o_now⟩, ⟨r_o_image, k_o_image⟩, ⟨r_o_aside, k_o_aside⟩, ⟨r_o_seen, k_o_seen⟩, ⟨r_o_unlike, k_o_unlike⟩, ⟨r_o_tape, k_o_tape⟩, ⟨r_o_keys, k_o_keys⟩, ⟨r_o_keyAt, k_o_keyAt⟩, ⟨r_o_code, k_o_code⟩, ⟨r_o_waits, k_o_waits⟩, ⟨r_o_tested, k_o_tested⟩, ⟨r_o_stack, k_o_stack⟩, ⟨r_o_facts, k_o_facts⟩, ⟨r_o_sorts, k_o_sorts⟩, ⟨r_o_sizes, k_o_sizes⟩, ⟨r_o_cells, k_o_cells⟩, ⟨r_o_holds, k_o_holds⟩, ⟨r_o_holdsA, k_o_holdsA⟩, ⟨r_o_holdsB, k_o_holdsB⟩, ⟨r_o_heldCells, k_o_heldCells⟩, ⟨r_o_moved, k_o_moved⟩, ⟨r_o_tells, k_o_tells⟩⟩ := id hM
  have z := FrM.rf o mi
  have e1 : mi (o + 1) 1 = nI n := by rw [hA, hn]
  refine mw_iload_n dX7_town_0 rfl ?_
  refine mw_ts1 dX7_town_1 (by decide) 0 44 (by decide) (fun h1_0 => ?_) (fun h1_0 => ?_)
  · skip
    refine mw_aload_n dX7_town_44 rfl ?_
    refine mw_getr dX7_town_45 fl_X7_9 rfl (by assumption) (by assumption) ?_
    refine mw_iconst (v := 3) dX7_town_48 (by decide) ?_
    refine mw_ialdK (k := 3) dX7_town_49 (by assumption) (rfl) (by decide) (by decide) ?_
    exact mw_iret dX7_town_50 rfl (by decide) (by decide) (⟨by rw [hA]; simp only [mTown, *]; simp, rfl, hA, z⟩)
  refine mw_ts1 dX7_town_1 (by decide) 1 51 (by decide) (fun h1_1 => ?_) (fun h1_1 => ?_)
  · skip
    refine mw_aload_n dX7_town_51 rfl ?_
    refine mw_iconst (v := 4) dX7_town_52 (by decide) ?_
    refine mw_cVI (g := fX7_sumOf) dX7_town_53 ml_X7_166 mfX7_sumOf (ok_X7_sumOf (w := 4) hM e1 hn8 (by decide)) (by assumption) rfl rfl (Nat.le_of_ble_eq_true rfl) ⟨by decide, by decide⟩ ⟨by decide, by decide⟩ ?_
    exact mw_iret dX7_town_56 rfl (by decide) (by decide) (⟨by rw [hA]; simp only [mTown, *]; simp, rfl, hA, z⟩)
  refine mw_ts1 dX7_town_1 (by decide) 2 57 (by decide) (fun h1_2 => ?_) (fun h1_2 => ?_)
  · skip
    refine mw_aload_n dX7_town_57 rfl ?_
    refine mw_getr dX7_town_58 fl_X7_9 rfl (by assumption) (by assumption) ?_
    refine mw_iconst (v := 4) dX7_town_61 (by decide) ?_
    refine mw_ialdK (k := 4) dX7_town_62 (by assumption) (rfl) (by decide) (by decide) ?_
    exact mw_iret dX7_town_63 rfl (by decide) (by decide) (⟨by rw [hA]; simp only [mTown, *]; simp, rfl, hA, z⟩)
  refine mw_ts1 dX7_town_1 (by decide) 3 64 (by decide) (fun h1_3 => ?_) (fun h1_3 => ?_)
  · skip
    refine mw_aload_n dX7_town_64 rfl ?_
    refine mw_getr dX7_town_65 fl_X7_9 rfl (by assumption) (by assumption) ?_
    refine mw_bipush (v := 9) dX7_town_68 (by decide) ?_
    refine mw_ialdK (k := 9) dX7_town_70 (by assumption) (rfl) (by decide) (by decide) ?_
    refine mw_cSI (g := fX7_bits) dX7_town_71 ml_X7_113 mfX7_bits (ok_X7_bits) rfl rfl (Nat.le_of_ble_eq_true rfl) ⟨by decide, by decide⟩ ⟨by decide, by decide⟩ ?_
    exact mw_iret dX7_town_74 rfl (by decide) (by decide) (⟨by rw [hA]; simp only [mTown, *]; simp, rfl, hA, z⟩)
  refine mw_ts1 dX7_town_1 (by decide) 4 75 (by decide) (fun h1_4 => ?_) (fun h1_4 => ?_)
  · skip
    refine mw_aload_n dX7_town_75 rfl ?_
    refine mw_iconst (v := 3) dX7_town_76 (by decide) ?_
    refine mw_cVI (g := fX7_sumOf) dX7_town_77 ml_X7_166 mfX7_sumOf (ok_X7_sumOf (w := 3) hM e1 hn8 (by decide)) (by assumption) rfl rfl (Nat.le_of_ble_eq_true rfl) ⟨by decide, by decide⟩ ⟨by decide, by decide⟩ ?_
    exact mw_iret dX7_town_80 rfl (by decide) (by decide) (⟨by rw [hA]; simp only [mTown, *]; simp, rfl, hA, z⟩)
  refine mw_ts1 dX7_town_1 (by decide) 5 81 (by decide) (fun h1_5 => ?_) (fun h1_5 => ?_)
  · skip
    refine mw_aload_n dX7_town_81 rfl ?_
    refine mw_cVI (g := fX7_dark) dX7_town_82 ml_X7_169 mfX7_dark (ok_X7_dark hM e1 hn8) (by assumption) rfl rfl (Nat.le_of_ble_eq_true rfl) ⟨by decide, by decide⟩ ⟨by decide, by decide⟩ ?_
    exact mw_iret dX7_town_85 rfl (by decide) (by decide) (⟨by rw [hA]; simp only [mTown, *]; simp, rfl, hA, z⟩)
  refine mw_ts1 dX7_town_1 (by decide) 6 86 (by decide) (fun h1_6 => ?_) (fun h1_6 => ?_)
  · skip
    refine mw_aload_n dX7_town_86 rfl ?_
    refine mw_iconst (v := 5) dX7_town_87 (by decide) ?_
    refine mw_callV (g := fX7_sumOf) dX7_town_88 ml_X7_166 mfX7_sumOf (ok_X7_sumRent hM hn8 hA hn ht ht14 hx hl) (by assumption) rfl rfl (Nat.le_of_ble_eq_true rfl) ⟨by decide, by decide⟩ ⟨by decide, by decide⟩ (fun r S2 mi2 hp => ?_)
    obtain ⟨rfl, e2, hs⟩ := hp
    rw [e2]
    exact mw_iret dX7_town_91 rfl (by decide) (by decide) (⟨by simp only [mTown, h1_6]; simp, rfl, (hs _ (by omega) (by omega)).trans hA, FrM.scr hs⟩)
  refine mw_ts0 dX7_town_1 (by decide) 92 (by decide) (by have e0 := ne_toI (n := 0) (by decide) h1_0; have e1 := ne_toI (n := 1) (by decide) h1_1; have e2 := ne_toI (n := 2) (by decide) h1_2; have e3 := ne_toI (n := 3) (by decide) h1_3; have e4 := ne_toI (n := 4) (by decide) h1_4; have e5 := ne_toI (n := 5) (by decide) h1_5; have e6 := ne_toI (n := 6) (by decide) h1_6; omega) ?_
  refine mw_ldc dX7_town_92 cn_X7_127 ?_
  exact mw_iret dX7_town_94 rfl (by decide) (by decide) (⟨by simp only [mTown, *]; simp, rfl, hA, z⟩)
