theorem dX7_rentOf_0 : decode fX7_rentOf.2.1 0 = .ok (.aload_n 0, 1) := by decide +kernel
theorem dX7_rentOf_1 : decode fX7_rentOf.2.1 1 = .ok (.iload_n 1, 1) := by decide +kernel
theorem dX7_rentOf_2 : decode fX7_rentOf.2.1 2 = .ok (.invokevirtual 104, 3) := by decide +kernel
theorem dX7_rentOf_5 : decode fX7_rentOf.2.1 5 = .ok (.istore_n 2, 1) := by decide +kernel
theorem dX7_rentOf_6 : decode fX7_rentOf.2.1 6 = .ok (.aload_n 0, 1) := by decide +kernel
theorem dX7_rentOf_7 : decode fX7_rentOf.2.1 7 = .ok (.iconst 0, 1) := by decide +kernel
theorem dX7_rentOf_8 : decode fX7_rentOf.2.1 8 = .ok (.invokevirtual 107, 3) := by decide +kernel
theorem dX7_rentOf_11 : decode fX7_rentOf.2.1 11 = .ok (.istore_n 3, 1) := by decide +kernel
theorem dX7_rentOf_12 : decode fX7_rentOf.2.1 12 = .ok (.aload_n 0, 1) := by decide +kernel
theorem dX7_rentOf_13 : decode fX7_rentOf.2.1 13 = .ok (.getfield 48, 3) := by decide +kernel
theorem dX7_rentOf_16 : decode fX7_rentOf.2.1 16 = .ok (.iconst 0, 1) := by decide +kernel
theorem dX7_rentOf_17 : decode fX7_rentOf.2.1 17 = .ok (.aload_n 0, 1) := by decide +kernel
theorem dX7_rentOf_18 : decode fX7_rentOf.2.1 18 = .ok (.iload_n 2, 1) := by decide +kernel
theorem dX7_rentOf_19 : decode fX7_rentOf.2.1 19 = .ok (.invokevirtual 110, 3) := by decide +kernel
theorem dX7_rentOf_22 : decode fX7_rentOf.2.1 22 = .ok (.iastore, 1) := by decide +kernel
theorem dX7_rentOf_23 : decode fX7_rentOf.2.1 23 = .ok (.aload_n 0, 1) := by decide +kernel
theorem dX7_rentOf_24 : decode fX7_rentOf.2.1 24 = .ok (.getfield 48, 3) := by decide +kernel
theorem dX7_rentOf_27 : decode fX7_rentOf.2.1 27 = .ok (.iconst 1, 1) := by decide +kernel
theorem dX7_rentOf_28 : decode fX7_rentOf.2.1 28 = .ok (.iload_n 2, 1) := by decide +kernel
theorem dX7_rentOf_29 : decode fX7_rentOf.2.1 29 = .ok (.invokestatic 113, 3) := by decide +kernel
theorem dX7_rentOf_32 : decode fX7_rentOf.2.1 32 = .ok (.iastore, 1) := by decide +kernel
theorem dX7_rentOf_33 : decode fX7_rentOf.2.1 33 = .ok (.aload_n 0, 1) := by decide +kernel
theorem dX7_rentOf_34 : decode fX7_rentOf.2.1 34 = .ok (.getfield 48, 3) := by decide +kernel
theorem dX7_rentOf_37 : decode fX7_rentOf.2.1 37 = .ok (.iconst 2, 1) := by decide +kernel
theorem dX7_rentOf_38 : decode fX7_rentOf.2.1 38 = .ok (.aload_n 0, 1) := by decide +kernel
theorem dX7_rentOf_39 : decode fX7_rentOf.2.1 39 = .ok (.getfield 9, 3) := by decide +kernel
theorem dX7_rentOf_42 : decode fX7_rentOf.2.1 42 = .ok (.iconst 2, 1) := by decide +kernel
theorem dX7_rentOf_43 : decode fX7_rentOf.2.1 43 = .ok (.iaload, 1) := by decide +kernel
theorem dX7_rentOf_44 : decode fX7_rentOf.2.1 44 = .ok (.iastore, 1) := by decide +kernel
theorem dX7_rentOf_45 : decode fX7_rentOf.2.1 45 = .ok (.aload_n 0, 1) := by decide +kernel
theorem dX7_rentOf_46 : decode fX7_rentOf.2.1 46 = .ok (.getfield 48, 3) := by decide +kernel
theorem dX7_rentOf_49 : decode fX7_rentOf.2.1 49 = .ok (.iconst 3, 1) := by decide +kernel
theorem dX7_rentOf_50 : decode fX7_rentOf.2.1 50 = .ok (.aload_n 0, 1) := by decide +kernel
theorem dX7_rentOf_51 : decode fX7_rentOf.2.1 51 = .ok (.iload_n 1, 1) := by decide +kernel
theorem dX7_rentOf_52 : decode fX7_rentOf.2.1 52 = .ok (.invokevirtual 93, 3) := by decide +kernel
theorem dX7_rentOf_55 : decode fX7_rentOf.2.1 55 = .ok (.iastore, 1) := by decide +kernel
theorem dX7_rentOf_56 : decode fX7_rentOf.2.1 56 = .ok (.iload_n 3, 1) := by decide +kernel
theorem dX7_rentOf_57 : decode fX7_rentOf.2.1 57 = .ok (.ifCond .ge 11, 3) := by decide +kernel
theorem dX7_rentOf_60 : decode fX7_rentOf.2.1 60 = .ok (.aload_n 0, 1) := by decide +kernel
theorem dX7_rentOf_61 : decode fX7_rentOf.2.1 61 = .ok (.iload_n 2, 1) := by decide +kernel
theorem dX7_rentOf_62 : decode fX7_rentOf.2.1 62 = .ok (.invokevirtual 110, 3) := by decide +kernel
theorem dX7_rentOf_65 : decode fX7_rentOf.2.1 65 = .ok (.goto 15, 3) := by decide +kernel
theorem dX7_rentOf_68 : decode fX7_rentOf.2.1 68 = .ok (.aload_n 0, 1) := by decide +kernel
theorem dX7_rentOf_69 : decode fX7_rentOf.2.1 69 = .ok (.iload_n 3, 1) := by decide +kernel
theorem dX7_rentOf_70 : decode fX7_rentOf.2.1 70 = .ok (.invokevirtual 116, 3) := by decide +kernel
theorem dX7_rentOf_73 : decode fX7_rentOf.2.1 73 = .ok (.iconst 0, 1) := by decide +kernel
theorem dX7_rentOf_74 : decode fX7_rentOf.2.1 74 = .ok (.sipush 9999, 3) := by decide +kernel
theorem dX7_rentOf_77 : decode fX7_rentOf.2.1 77 = .ok (.invokestatic 82, 3) := by decide +kernel
theorem dX7_rentOf_80 : decode fX7_rentOf.2.1 80 = .ok (.istore 4, 2) := by decide +kernel
theorem dX7_rentOf_82 : decode fX7_rentOf.2.1 82 = .ok (.iload 4, 2) := by decide +kernel
theorem dX7_rentOf_84 : decode fX7_rentOf.2.1 84 = .ok (.ifCond .le 10, 3) := by decide +kernel
theorem dX7_rentOf_87 : decode fX7_rentOf.2.1 87 = .ok (.iload 4, 2) := by decide +kernel
theorem dX7_rentOf_89 : decode fX7_rentOf.2.1 89 = .ok (.iconst 1, 1) := by decide +kernel
theorem dX7_rentOf_90 : decode fX7_rentOf.2.1 90 = .ok (.isub, 1) := by decide +kernel
theorem dX7_rentOf_91 : decode fX7_rentOf.2.1 91 = .ok (.goto 4, 3) := by decide +kernel
theorem dX7_rentOf_94 : decode fX7_rentOf.2.1 94 = .ok (.iconst 0, 1) := by decide +kernel
theorem dX7_rentOf_95 : decode fX7_rentOf.2.1 95 = .ok (.istore 5, 2) := by decide +kernel
theorem dX7_rentOf_97 : decode fX7_rentOf.2.1 97 = .ok (.aload_n 0, 1) := by decide +kernel
theorem dX7_rentOf_98 : decode fX7_rentOf.2.1 98 = .ok (.iload_n 1, 1) := by decide +kernel
theorem dX7_rentOf_99 : decode fX7_rentOf.2.1 99 = .ok (.iconst 0, 1) := by decide +kernel
theorem dX7_rentOf_100 : decode fX7_rentOf.2.1 100 = .ok (.invokevirtual 86, 3) := by decide +kernel
theorem dX7_rentOf_103 : decode fX7_rentOf.2.1 103 = .ok (.tableswitch 52 1 4 #[29, 32, 37, 42], 29) := by decide +kernel
theorem dX7_rentOf_132 : decode fX7_rentOf.2.1 132 = .ok (.iload 5, 2) := by decide +kernel
theorem dX7_rentOf_134 : decode fX7_rentOf.2.1 134 = .ok (.ireturn, 1) := by decide +kernel
theorem dX7_rentOf_135 : decode fX7_rentOf.2.1 135 = .ok (.iload 4, 2) := by decide +kernel
theorem dX7_rentOf_137 : decode fX7_rentOf.2.1 137 = .ok (.iconst 3, 1) := by decide +kernel
theorem dX7_rentOf_138 : decode fX7_rentOf.2.1 138 = .ok (.iadd, 1) := by decide +kernel
theorem dX7_rentOf_139 : decode fX7_rentOf.2.1 139 = .ok (.ireturn, 1) := by decide +kernel
theorem dX7_rentOf_140 : decode fX7_rentOf.2.1 140 = .ok (.iload 5, 2) := by decide +kernel
theorem dX7_rentOf_142 : decode fX7_rentOf.2.1 142 = .ok (.iconst 2, 1) := by decide +kernel
theorem dX7_rentOf_143 : decode fX7_rentOf.2.1 143 = .ok (.idiv, 1) := by decide +kernel
theorem dX7_rentOf_144 : decode fX7_rentOf.2.1 144 = .ok (.ireturn, 1) := by decide +kernel
theorem dX7_rentOf_145 : decode fX7_rentOf.2.1 145 = .ok (.iload 4, 2) := by decide +kernel
theorem dX7_rentOf_147 : decode fX7_rentOf.2.1 147 = .ok (.iconst 3, 1) := by decide +kernel
theorem dX7_rentOf_148 : decode fX7_rentOf.2.1 148 = .ok (.iadd, 1) := by decide +kernel
theorem dX7_rentOf_149 : decode fX7_rentOf.2.1 149 = .ok (.iload_n 2, 1) := by decide +kernel
theorem dX7_rentOf_150 : decode fX7_rentOf.2.1 150 = .ok (.invokestatic 113, 3) := by decide +kernel
theorem dX7_rentOf_153 : decode fX7_rentOf.2.1 153 = .ok (.iadd, 1) := by decide +kernel
theorem dX7_rentOf_154 : decode fX7_rentOf.2.1 154 = .ok (.ireturn, 1) := by decide +kernel
theorem dX7_rentOf_155 : decode fX7_rentOf.2.1 155 = .ok (.iload 4, 2) := by decide +kernel
theorem dX7_rentOf_157 : decode fX7_rentOf.2.1 157 = .ok (.ireturn, 1) := by decide +kernel
set_option maxRecDepth 100000 in
set_option maxHeartbeats 4000000 in
theorem ok_X7_rentOf {X : Xb} {S : Sg} {mi : Mem} {o a n : Nat} (hM : MdA S o) (ha : a < 8) (hn : mi (o + 1) 5 = nI n) (hn14 : n ≤ 14) (ht : MtOk (mi (o + 1)) n) : Ok 4 0 0 fX7_rentOf X [rf X o, .int (nI a)] S mi (fun r S' m => r = some (.int (mRent (lwM (mi (o + 1)) 0 n) (mi (o + 1)) a)) ∧ S' = S ∧ ScrM o mi m) := by
  refine Ok.go [some (rf X o), some (.int (nI a)), none, none, none, none] (by decide) (by simp [Value.category]) (Nat.le_of_ble_eq_true rfl) rfl ?_
  obtain ⟨k_o, ⟨r_o_now, k_o_now⟩, ⟨r_o_image, k_o_image⟩, ⟨r_o_aside, k_o_aside⟩, ⟨r_o_seen, k_o_seen⟩, ⟨r_o_unlike, k_o_unlike⟩, ⟨r_o_tape, k_o_tape⟩, ⟨r_o_keys, k_o_keys⟩, ⟨r_o_keyAt, k_o_keyAt⟩, ⟨r_o_code, k_o_code⟩, ⟨r_o_waits, k_o_waits⟩, ⟨r_o_tested, k_o_tested⟩, ⟨r_o_stack, k_o_stack⟩, ⟨r_o_facts, k_o_facts⟩, ⟨r_o_sorts, k_o_sorts⟩, ⟨r_o_sizes, k_o_sizes⟩, ⟨r_o_cells, k_o_cells⟩, ⟨r_o_holds, k_o_holds⟩, ⟨r_o_holdsA, k_o_holdsA⟩, ⟨r_o_holdsB, k_o_holdsB⟩, ⟨r_o_heldCells, k_o_heldCells⟩, ⟨r_o_moved, k_o_moved⟩, ⟨r_o_tells, k_o_tells⟩⟩ := id hM
  have n1 : o + 1 ≠ o + 13 := by omega
  have n2 : o + 1 ≠ o + 12 := by omega
  have s80 : ∀ (m : Mem) (p : Int32) (a3 : Option Value), ScrM o mi m → mPlainF (lwM (mi (o + 1)) 0 n) (mPrices (fun k => mi (o + 1) (18 + k)) (rSees (mi (o + 1)) a)) (popI (rSees (mi (o + 1)) a)) (mi (o + 1) 2) (mWide (mi (o + 1) 2) (mi (o + 1) (26 + 5 * a)) (mi (o + 1) (26 + 5 * a + 2))) = p → MW X fX7_rentOf (rmOf 4 0 0) 0 0 80 [some (rf X o), some (.int (nI a)), some (.int (rSees (mi (o + 1)) a)), none, none, none] [.int p] S m (mQ X 0 0 (fun r S' m => r = some (.int (mRent (lwM (mi (o + 1)) 0 n) (mi (o + 1)) a)) ∧ S' = S ∧ ScrM o mi m)) := by
    intro m p a3 hs hp
    have em : m (o + 1) = mi (o + 1) := hs (o + 1) (by omega) (by omega)
    refine mw_istore dX7_rentOf_80 (by decide) ?_
    refine mw_iload dX7_rentOf_82 rfl ?_
    refine mw_if_le (tgt := 94) dX7_rentOf_84 (by decide) (fun h84 => ?_) (fun h84 => ?_)
    · skip
      refine mw_iconst (v := 0) dX7_rentOf_94 (by decide) ?_
      refine mw_istore dX7_rentOf_95 (by decide) ?_
      refine mw_aload_n dX7_rentOf_97 rfl ?_
      refine mw_iload_n dX7_rentOf_98 rfl ?_
      refine mw_iconst (v := 0) dX7_rentOf_99 (by decide) ?_
      refine mw_cVI (g := fX7_of) dX7_rentOf_100 ml_X7_86 mfX7_of (ok_X7_of hM (a := a) (w := 0) ha (by decide)) (by assumption) rfl rfl (Nat.le_of_ble_eq_true rfl) ⟨by decide, by decide⟩ ⟨by decide, by decide⟩ ?_
      rw [em]
      refine mw_ts1 dX7_rentOf_103 (by decide) 1 132 (by decide) (fun h103_1 => ?_) (fun h103_1 => ?_)
      · skip
        refine mw_iload dX7_rentOf_132 rfl ?_
        exact mw_iret dX7_rentOf_134 rfl (by decide) (by decide) (⟨by rw [mRent, hp]; simp only [mRentP]; grind, rfl, hs⟩)
      refine mw_ts1 dX7_rentOf_103 (by decide) 2 135 (by decide) (fun h103_2 => ?_) (fun h103_2 => ?_)
      · skip
        refine mw_iload dX7_rentOf_135 rfl ?_
        refine mw_iconst (v := 3) dX7_rentOf_137 (by decide) ?_
        refine mw_iadd dX7_rentOf_138 ?_
        exact mw_iret dX7_rentOf_139 rfl (by decide) (by decide) (⟨by rw [mRent, hp]; simp only [mRentP]; grind, rfl, hs⟩)
      refine mw_ts1 dX7_rentOf_103 (by decide) 3 140 (by decide) (fun h103_3 => ?_) (fun h103_3 => ?_)
      · skip
        refine mw_iload dX7_rentOf_140 rfl ?_
        refine mw_iconst (v := 2) dX7_rentOf_142 (by decide) ?_
        refine mw_idiv dX7_rentOf_143 (by decide) ?_
        exact mw_iret dX7_rentOf_144 rfl (by decide) (by decide) (⟨by rw [mRent, hp]; simp only [Nat.add_zero] at h103_1 h103_2 h103_3; rw [mRentP, if_neg h103_1, if_neg h103_2, if_pos h103_3]; first | rw [if_neg (Int32.not_lt.mpr h84)] | rw [if_pos (Int32.not_le.mp h84)], rfl, hs⟩)
      refine mw_ts1 dX7_rentOf_103 (by decide) 4 145 (by decide) (fun h103_4 => ?_) (fun h103_4 => ?_)
      · skip
        refine mw_iload dX7_rentOf_145 rfl ?_
        refine mw_iconst (v := 3) dX7_rentOf_147 (by decide) ?_
        refine mw_iadd dX7_rentOf_148 ?_
        refine mw_iload_n dX7_rentOf_149 rfl ?_
        refine mw_cSI (g := fX7_bits) dX7_rentOf_150 ml_X7_113 mfX7_bits (ok_X7_bits) rfl rfl (Nat.le_of_ble_eq_true rfl) ⟨by decide, by decide⟩ ⟨by decide, by decide⟩ ?_
        refine mw_iadd dX7_rentOf_153 ?_
        exact mw_iret dX7_rentOf_154 rfl (by decide) (by decide) (⟨by rw [mRent, hp]; simp only [mRentP]; grind, rfl, hs⟩)
      refine mw_ts0 dX7_rentOf_103 (by decide) 155 (by decide) (by have e0 := ne_toI (n := 1) (by decide) h103_1; have e1 := ne_toI (n := 2) (by decide) h103_2; have e2 := ne_toI (n := 3) (by decide) h103_3; have e3 := ne_toI (n := 4) (by decide) h103_4; omega) ?_
      refine mw_iload dX7_rentOf_155 rfl ?_
      exact mw_iret dX7_rentOf_157 rfl (by decide) (by decide) (⟨by rw [mRent, hp]; simp only [mRentP]; grind, rfl, hs⟩)
    · skip
      refine mw_iload dX7_rentOf_87 rfl ?_
      refine mw_iconst (v := 1) dX7_rentOf_89 (by decide) ?_
      refine mw_isub dX7_rentOf_90 ?_
      refine mw_goto (tgt := 95) dX7_rentOf_91 (by decide) ?_
      refine mw_istore dX7_rentOf_95 (by decide) ?_
      refine mw_aload_n dX7_rentOf_97 rfl ?_
      refine mw_iload_n dX7_rentOf_98 rfl ?_
      refine mw_iconst (v := 0) dX7_rentOf_99 (by decide) ?_
      refine mw_cVI (g := fX7_of) dX7_rentOf_100 ml_X7_86 mfX7_of (ok_X7_of hM (a := a) (w := 0) ha (by decide)) (by assumption) rfl rfl (Nat.le_of_ble_eq_true rfl) ⟨by decide, by decide⟩ ⟨by decide, by decide⟩ ?_
      rw [em]
      refine mw_ts1 dX7_rentOf_103 (by decide) 1 132 (by decide) (fun h103_1 => ?_) (fun h103_1 => ?_)
      · skip
        refine mw_iload dX7_rentOf_132 rfl ?_
        exact mw_iret dX7_rentOf_134 rfl (by decide) (by decide) (⟨by rw [mRent, hp]; simp only [mRentP]; grind, rfl, hs⟩)
      refine mw_ts1 dX7_rentOf_103 (by decide) 2 135 (by decide) (fun h103_2 => ?_) (fun h103_2 => ?_)
      · skip
        refine mw_iload dX7_rentOf_135 rfl ?_
        refine mw_iconst (v := 3) dX7_rentOf_137 (by decide) ?_
        refine mw_iadd dX7_rentOf_138 ?_
        exact mw_iret dX7_rentOf_139 rfl (by decide) (by decide) (⟨by rw [mRent, hp]; simp only [mRentP]; grind, rfl, hs⟩)
      refine mw_ts1 dX7_rentOf_103 (by decide) 3 140 (by decide) (fun h103_3 => ?_) (fun h103_3 => ?_)
      · skip
        refine mw_iload dX7_rentOf_140 rfl ?_
        refine mw_iconst (v := 2) dX7_rentOf_142 (by decide) ?_
        refine mw_idiv dX7_rentOf_143 (by decide) ?_
        exact mw_iret dX7_rentOf_144 rfl (by decide) (by decide) (⟨by rw [mRent, hp]; simp only [Nat.add_zero] at h103_1 h103_2 h103_3; rw [mRentP, if_neg h103_1, if_neg h103_2, if_pos h103_3]; first | rw [if_neg (Int32.not_lt.mpr h84)] | rw [if_pos (Int32.not_le.mp h84)], rfl, hs⟩)
      refine mw_ts1 dX7_rentOf_103 (by decide) 4 145 (by decide) (fun h103_4 => ?_) (fun h103_4 => ?_)
      · skip
        refine mw_iload dX7_rentOf_145 rfl ?_
        refine mw_iconst (v := 3) dX7_rentOf_147 (by decide) ?_
        refine mw_iadd dX7_rentOf_148 ?_
        refine mw_iload_n dX7_rentOf_149 rfl ?_
        refine mw_cSI (g := fX7_bits) dX7_rentOf_150 ml_X7_113 mfX7_bits (ok_X7_bits) rfl rfl (Nat.le_of_ble_eq_true rfl) ⟨by decide, by decide⟩ ⟨by decide, by decide⟩ ?_
        refine mw_iadd dX7_rentOf_153 ?_
        exact mw_iret dX7_rentOf_154 rfl (by decide) (by decide) (⟨by rw [mRent, hp]; simp only [mRentP]; grind, rfl, hs⟩)
      refine mw_ts0 dX7_rentOf_103 (by decide) 155 (by decide) (by have e0 := ne_toI (n := 1) (by decide) h103_1; have e1 := ne_toI (n := 2) (by decide) h103_2; have e2 := ne_toI (n := 3) (by decide) h103_3; have e3 := ne_toI (n := 4) (by decide) h103_4; omega) ?_
      refine mw_iload dX7_rentOf_155 rfl ?_
      exact mw_iret dX7_rentOf_157 rfl (by decide) (by decide) (⟨by rw [mRent, hp]; simp only [mRentP]; grind, rfl, hs⟩)
  have s68 : ∀ (m : Mem) (t : Nat), ScrM o mi m → m (o + 13) 0 = mPrices (fun k => mi (o + 1) (18 + k)) (rSees (mi (o + 1)) a) → m (o + 13) 1 = popI (rSees (mi (o + 1)) a) → m (o + 13) 2 = mi (o + 1) 2 → m (o + 13) 3 = mWide (mi (o + 1) 2) (mi (o + 1) (26 + 5 * a)) (mi (o + 1) (26 + 5 * a + 2)) → lastK (mi (o + 1)) 0 n = some t → MW X fX7_rentOf (rmOf 4 0 0) 0 0 68 [some (rf X o), some (.int (nI a)), some (.int (rSees (mi (o + 1)) a)), some (.int (nI t)), none, none] [] S m (mQ X 0 0 (fun r S' m => r = some (.int (mRent (lwM (mi (o + 1)) 0 n) (mi (o + 1)) a)) ∧ S' = S ∧ ScrM o mi m)) := by
    intro m t hs f0 f1 f2 f3 hk
    have htn := lastK_lt n hk
    have em : m (o + 1) = mi (o + 1) := hs (o + 1) (by omega) (by omega)
    refine mw_aload_n dX7_rentOf_68 rfl ?_
    refine mw_iload_n dX7_rentOf_69 rfl ?_
    refine mw_cVI (g := fX7_worksOut) dX7_rentOf_70 ml_X7_116 mfX7_worksOut (ok_X7_worksOut (t := t) (n := mLen (mi (o + 1)) t) hM (by omega) (by rw [em]; exact (ht t htn).1) (by rw [em]; exact (ht t htn).2)) (by assumption) rfl rfl (Nat.le_of_ble_eq_true rfl) ⟨by decide, by decide⟩ ⟨by decide, by decide⟩ ?_
    rw [em, wRun_law (ht t htn).2 f0 f1 f2 f3]
    refine mw_iconst (v := 0) dX7_rentOf_73 (by decide) ?_
    refine mw_sipush (v := 9999) dX7_rentOf_74 (by decide) ?_
    refine mw_cSI (g := fX7_within) dX7_rentOf_77 ml_X7_82 mfX7_within (ok_X7_within) rfl rfl (Nat.le_of_ble_eq_true rfl) ⟨by decide, by decide⟩ ⟨by decide, by decide⟩ ?_
    exact MW.sub (by simp [lsub]) (s80 _ _ none hs.row (by rw [lwM, hk]; rfl))
  refine mw_aload_n dX7_rentOf_0 rfl ?_
  refine mw_iload_n dX7_rentOf_1 rfl ?_
  refine mw_cVI (g := fX7_sees) dX7_rentOf_2 ml_X7_104 mfX7_sees (ok_X7_sees hM ha) (by assumption) rfl rfl (Nat.le_of_ble_eq_true rfl) ⟨by decide, by decide⟩ ⟨by decide, by decide⟩ ?_
  refine mw_istN 2 dX7_rentOf_5 rfl (by decide) ?_
  refine mw_aload_n dX7_rentOf_6 rfl ?_
  refine mw_iconst (v := 0) dX7_rentOf_7 (by decide) ?_
  refine mw_cVI (g := fX7_counts) dX7_rentOf_8 ml_X7_107 mfX7_counts (ok_X7_counts hM hn hn14) (by assumption) rfl rfl (Nat.le_of_ble_eq_true rfl) ⟨by decide, by decide⟩ ⟨by decide, by decide⟩ ?_
  refine mw_istN 3 dX7_rentOf_11 rfl (by decide) ?_
  refine mw_aload_n dX7_rentOf_12 rfl ?_
  refine mw_getr dX7_rentOf_13 fl_X7_48 rfl (by assumption) (by assumption) ?_
  refine mw_iconst (v := 0) dX7_rentOf_16 (by decide) ?_
  refine mw_aload_n dX7_rentOf_17 rfl ?_
  refine mw_iload_n dX7_rentOf_18 rfl ?_
  refine mw_cVI (g := fX7_pricesOf) dX7_rentOf_19 ml_X7_110 mfX7_pricesOf (ok_X7_pricesOf hM) (by assumption) rfl rfl (Nat.le_of_ble_eq_true rfl) ⟨by decide, by decide⟩ ⟨by decide, by decide⟩ ?_
  refine mw_iastK (k := 0) dX7_rentOf_22 (by assumption) (rfl) (by decide) (by decide) ?_
  generalize hm1 : m_up mi (o + 13) 0 _ = m1
  have s1 : ScrM o mi m1 := by rw [← hm1]; exact (ScrM.rf o mi).up
  have em1 : m1 (o + 1) = mi (o + 1) := s1 _ n2 n1
  refine mw_aload_n dX7_rentOf_23 rfl ?_
  refine mw_getr dX7_rentOf_24 fl_X7_48 rfl (by assumption) (by assumption) ?_
  refine mw_iconst (v := 1) dX7_rentOf_27 (by decide) ?_
  refine mw_iload_n dX7_rentOf_28 rfl ?_
  refine mw_cSI (g := fX7_bits) dX7_rentOf_29 ml_X7_113 mfX7_bits (ok_X7_bits) rfl rfl (Nat.le_of_ble_eq_true rfl) ⟨by decide, by decide⟩ ⟨by decide, by decide⟩ ?_
  refine mw_iastK (k := 1) dX7_rentOf_32 (by assumption) (rfl) (by decide) (by decide) ?_
  generalize hm2 : m_up m1 (o + 13) 1 _ = m2
  have s2 : ScrM o mi m2 := by rw [← hm2]; exact s1.up
  have em2 : m2 (o + 1) = mi (o + 1) := s2 _ n2 n1
  refine mw_aload_n dX7_rentOf_33 rfl ?_
  refine mw_getr dX7_rentOf_34 fl_X7_48 rfl (by assumption) (by assumption) ?_
  refine mw_iconst (v := 2) dX7_rentOf_37 (by decide) ?_
  refine mw_aload_n dX7_rentOf_38 rfl ?_
  refine mw_getr dX7_rentOf_39 fl_X7_9 rfl (by assumption) (by assumption) ?_
  refine mw_iconst (v := 2) dX7_rentOf_42 (by decide) ?_
  refine mw_ialdK (k := 2) dX7_rentOf_43 (by assumption) (rfl) (by decide) (by decide) ?_
  rw [em2]
  refine mw_iastK (k := 2) dX7_rentOf_44 (by assumption) (rfl) (by decide) (by decide) ?_
  generalize hm3 : m_up m2 (o + 13) 2 _ = m3
  have s3 : ScrM o mi m3 := by rw [← hm3]; exact s2.up
  have em3 : m3 (o + 1) = mi (o + 1) := s3 _ n2 n1
  refine mw_aload_n dX7_rentOf_45 rfl ?_
  refine mw_getr dX7_rentOf_46 fl_X7_48 rfl (by assumption) (by assumption) ?_
  refine mw_iconst (v := 3) dX7_rentOf_49 (by decide) ?_
  refine mw_aload_n dX7_rentOf_50 rfl ?_
  refine mw_iload_n dX7_rentOf_51 rfl ?_
  refine mw_cVI (g := fX7_wideOf) dX7_rentOf_52 ml_X7_93 mfX7_wideOf (ok_X7_wideOf hM ha) (by assumption) rfl rfl (Nat.le_of_ble_eq_true rfl) ⟨by decide, by decide⟩ ⟨by decide, by decide⟩ ?_
  rw [em3]
  refine mw_iastK (k := 3) dX7_rentOf_55 (by assumption) (rfl) (by decide) (by decide) ?_
  generalize hm4 : m_up m3 (o + 13) 3 _ = m4
  have s4 : ScrM o mi m4 := by rw [← hm4]; exact s3.up
  have em4 : m4 (o + 1) = mi (o + 1) := s4 _ n2 n1
  refine mw_iload_n dX7_rentOf_56 rfl ?_
  refine mw_if_ge (tgt := 68) dX7_rentOf_57 (by decide) (fun h57 => ?_) (fun h57 => ?_)
  · skip
    cases hk : lastK (mi (o + 1)) 0 n with
    | none => exfalso; rw [lastI, hk] at h57; exact absurd h57 (by decide)
    | some t =>
      refine MW.sub (by simp [lsub, lastI, hk]) (s68 m4 t s4 ?_ ?_ ?_ ?_ hk)
      · rw [← hm4, ← hm3, ← hm2, ← hm1]; simp [m_up]
      · rw [← hm4, ← hm3, ← hm2]; simp [m_up]
      · rw [← hm4, ← hm3]; simp [m_up]
      · rw [← hm4]; simp [m_up]
  · skip
    refine mw_aload_n dX7_rentOf_60 rfl ?_
    refine mw_iload_n dX7_rentOf_61 rfl ?_
    refine mw_cVI (g := fX7_pricesOf) dX7_rentOf_62 ml_X7_110 mfX7_pricesOf (ok_X7_pricesOf hM) (by assumption) rfl rfl (Nat.le_of_ble_eq_true rfl) ⟨by decide, by decide⟩ ⟨by decide, by decide⟩ ?_
    refine mw_goto (tgt := 80) dX7_rentOf_65 (by decide) ?_
    rw [em4]
    have hk : lastK (mi (o + 1)) 0 n = none := by
      cases hk : lastK (mi (o + 1)) 0 n with
      | none => rfl
      | some t =>
        exfalso; apply h57; rw [lastI, hk]; exact nI_pos' (by have := lastK_lt n hk; omega)
    exact MW.sub (by simp [lsub]) (s80 m4 _ none s4 (by rw [lwM, hk]; rfl))
