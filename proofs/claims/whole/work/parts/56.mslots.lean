/-! the model: pour, reads, slots, rows, images -/
def mPourV (c : Nat → Int32) (B : Nat → Int32) (k : Nat) : Int32 := if c k = NONEi then B (18 + k) else clampI (c k) 0 99
def mPourS (c : Nat → Int32) (A : Nat → Int32) : Nat → Int32 × (Nat → Int32)
  | 0 => (0, A)
  | k + 1 => ((mPourS c A k).1 + (if (mPourS c A k).2 (18 + k) = mPourV c (mPourS c A k).2 k then 0 else 1), upd (mPourS c A k).2 (18 + k) (mPourV c (mPourS c A k).2 k))
def mPour (mi : Mem) (o : Nat) (A : Nat → Int32) (n : Nat) (v : Int32) : Sp := if 0 ≤ v ∧ v ≤ 3 then (if mi (o + 14) v.toNatClampNeg < 0 then (NOTHINGi, A, n) else ((mPourS (fun k => mi (o + 16) (24 * v.toNatClampNeg + k)) A (min (mi (o + 15) v.toNatClampNeg).toNatClampNeg 8)).1, (mPourS (fun k => mi (o + 16) (24 * v.toNatClampNeg + k)) A (min (mi (o + 15) v.toNatClampNeg).toNatClampNeg 8)).2, n)) else (BADi, A, n)
theorem dX7_pour_0 : decode fX7_pour.2.1 0 = .ok (.iload_n 1, 1) := by decide +kernel
theorem dX7_pour_1 : decode fX7_pour.2.1 1 = .ok (.invokestatic 187, 3) := by decide +kernel
theorem dX7_pour_4 : decode fX7_pour.2.1 4 = .ok (.ifCond .ne 6, 3) := by decide +kernel
theorem dX7_pour_7 : decode fX7_pour.2.1 7 = .ok (.ldc 127, 2) := by decide +kernel
theorem dX7_pour_9 : decode fX7_pour.2.1 9 = .ok (.ireturn, 1) := by decide +kernel
theorem dX7_pour_10 : decode fX7_pour.2.1 10 = .ok (.aload_n 0, 1) := by decide +kernel
theorem dX7_pour_11 : decode fX7_pour.2.1 11 = .ok (.getfield 51, 3) := by decide +kernel
theorem dX7_pour_14 : decode fX7_pour.2.1 14 = .ok (.iload_n 1, 1) := by decide +kernel
theorem dX7_pour_15 : decode fX7_pour.2.1 15 = .ok (.iaload, 1) := by decide +kernel
theorem dX7_pour_16 : decode fX7_pour.2.1 16 = .ok (.ifCond .ge 6, 3) := by decide +kernel
theorem dX7_pour_19 : decode fX7_pour.2.1 19 = .ok (.ldc 190, 2) := by decide +kernel
theorem dX7_pour_21 : decode fX7_pour.2.1 21 = .ok (.ireturn, 1) := by decide +kernel
theorem dX7_pour_22 : decode fX7_pour.2.1 22 = .ok (.iconst 0, 1) := by decide +kernel
theorem dX7_pour_23 : decode fX7_pour.2.1 23 = .ok (.istore_n 2, 1) := by decide +kernel
theorem dX7_pour_24 : decode fX7_pour.2.1 24 = .ok (.iconst 0, 1) := by decide +kernel
theorem dX7_pour_25 : decode fX7_pour.2.1 25 = .ok (.istore_n 3, 1) := by decide +kernel
theorem dX7_pour_26 : decode fX7_pour.2.1 26 = .ok (.iload_n 3, 1) := by decide +kernel
theorem dX7_pour_27 : decode fX7_pour.2.1 27 = .ok (.aload_n 0, 1) := by decide +kernel
theorem dX7_pour_28 : decode fX7_pour.2.1 28 = .ok (.getfield 54, 3) := by decide +kernel
theorem dX7_pour_31 : decode fX7_pour.2.1 31 = .ok (.iload_n 1, 1) := by decide +kernel
theorem dX7_pour_32 : decode fX7_pour.2.1 32 = .ok (.iaload, 1) := by decide +kernel
theorem dX7_pour_33 : decode fX7_pour.2.1 33 = .ok (.if_icmp .ge 80, 3) := by decide +kernel
theorem dX7_pour_36 : decode fX7_pour.2.1 36 = .ok (.iload_n 3, 1) := by decide +kernel
theorem dX7_pour_37 : decode fX7_pour.2.1 37 = .ok (.bipush 8, 2) := by decide +kernel
theorem dX7_pour_39 : decode fX7_pour.2.1 39 = .ok (.if_icmp .ge 74, 3) := by decide +kernel
theorem dX7_pour_42 : decode fX7_pour.2.1 42 = .ok (.aload_n 0, 1) := by decide +kernel
theorem dX7_pour_43 : decode fX7_pour.2.1 43 = .ok (.getfield 57, 3) := by decide +kernel
theorem dX7_pour_46 : decode fX7_pour.2.1 46 = .ok (.bipush 24, 2) := by decide +kernel
theorem dX7_pour_48 : decode fX7_pour.2.1 48 = .ok (.iload_n 1, 1) := by decide +kernel
theorem dX7_pour_49 : decode fX7_pour.2.1 49 = .ok (.imul, 1) := by decide +kernel
theorem dX7_pour_50 : decode fX7_pour.2.1 50 = .ok (.iload_n 3, 1) := by decide +kernel
theorem dX7_pour_51 : decode fX7_pour.2.1 51 = .ok (.iadd, 1) := by decide +kernel
theorem dX7_pour_52 : decode fX7_pour.2.1 52 = .ok (.iaload, 1) := by decide +kernel
theorem dX7_pour_53 : decode fX7_pour.2.1 53 = .ok (.istore 4, 2) := by decide +kernel
theorem dX7_pour_55 : decode fX7_pour.2.1 55 = .ok (.iload 4, 2) := by decide +kernel
theorem dX7_pour_57 : decode fX7_pour.2.1 57 = .ok (.ldc 172, 2) := by decide +kernel
theorem dX7_pour_59 : decode fX7_pour.2.1 59 = .ok (.if_icmp .ne 15, 3) := by decide +kernel
theorem dX7_pour_62 : decode fX7_pour.2.1 62 = .ok (.aload_n 0, 1) := by decide +kernel
theorem dX7_pour_63 : decode fX7_pour.2.1 63 = .ok (.getfield 9, 3) := by decide +kernel
theorem dX7_pour_66 : decode fX7_pour.2.1 66 = .ok (.bipush 18, 2) := by decide +kernel
theorem dX7_pour_68 : decode fX7_pour.2.1 68 = .ok (.iload_n 3, 1) := by decide +kernel
theorem dX7_pour_69 : decode fX7_pour.2.1 69 = .ok (.iadd, 1) := by decide +kernel
theorem dX7_pour_70 : decode fX7_pour.2.1 70 = .ok (.iaload, 1) := by decide +kernel
theorem dX7_pour_71 : decode fX7_pour.2.1 71 = .ok (.goto 11, 3) := by decide +kernel
theorem dX7_pour_74 : decode fX7_pour.2.1 74 = .ok (.iload 4, 2) := by decide +kernel
theorem dX7_pour_76 : decode fX7_pour.2.1 76 = .ok (.iconst 0, 1) := by decide +kernel
theorem dX7_pour_77 : decode fX7_pour.2.1 77 = .ok (.bipush 99, 2) := by decide +kernel
theorem dX7_pour_79 : decode fX7_pour.2.1 79 = .ok (.invokestatic 82, 3) := by decide +kernel
theorem dX7_pour_82 : decode fX7_pour.2.1 82 = .ok (.istore 5, 2) := by decide +kernel
theorem dX7_pour_84 : decode fX7_pour.2.1 84 = .ok (.iload_n 2, 1) := by decide +kernel
theorem dX7_pour_85 : decode fX7_pour.2.1 85 = .ok (.aload_n 0, 1) := by decide +kernel
theorem dX7_pour_86 : decode fX7_pour.2.1 86 = .ok (.bipush 18, 2) := by decide +kernel
theorem dX7_pour_88 : decode fX7_pour.2.1 88 = .ok (.iload_n 3, 1) := by decide +kernel
theorem dX7_pour_89 : decode fX7_pour.2.1 89 = .ok (.iadd, 1) := by decide +kernel
theorem dX7_pour_90 : decode fX7_pour.2.1 90 = .ok (.iload 5, 2) := by decide +kernel
theorem dX7_pour_92 : decode fX7_pour.2.1 92 = .ok (.invokevirtual 142, 3) := by decide +kernel
theorem dX7_pour_95 : decode fX7_pour.2.1 95 = .ok (.iload 5, 2) := by decide +kernel
theorem dX7_pour_97 : decode fX7_pour.2.1 97 = .ok (.if_icmp .ne 7, 3) := by decide +kernel
theorem dX7_pour_100 : decode fX7_pour.2.1 100 = .ok (.iconst 0, 1) := by decide +kernel
theorem dX7_pour_101 : decode fX7_pour.2.1 101 = .ok (.goto 4, 3) := by decide +kernel
theorem dX7_pour_104 : decode fX7_pour.2.1 104 = .ok (.iconst 1, 1) := by decide +kernel
theorem dX7_pour_105 : decode fX7_pour.2.1 105 = .ok (.iadd, 1) := by decide +kernel
theorem dX7_pour_106 : decode fX7_pour.2.1 106 = .ok (.istore_n 2, 1) := by decide +kernel
theorem dX7_pour_107 : decode fX7_pour.2.1 107 = .ok (.iinc 3 1, 3) := by decide +kernel
theorem dX7_pour_110 : decode fX7_pour.2.1 110 = .ok (.goto (-84), 3) := by decide +kernel
theorem dX7_pour_113 : decode fX7_pour.2.1 113 = .ok (.iload_n 2, 1) := by decide +kernel
theorem dX7_pour_114 : decode fX7_pour.2.1 114 = .ok (.ireturn, 1) := by decide +kernel
set_option maxRecDepth 100000 in
set_option maxHeartbeats 4000000 in
theorem ok_X7_pour {X : Xb} {S : Sg} {mi : Mem} {o n : Nat} {A : Nat → Int32} {v : Int32} (hM : MdA S o) (hZ : MsZ mi o) (hA : mi (o + 1) = A) : Ok 2 0 0 fX7_pour X [rf X o, .int v] S mi (PM S mi o (mPour mi o A n v)) := by
  refine Ok.go [some (rf X o), some (.int v), none, none, none, none] (by decide) (by simp [Value.category]) (Nat.le_of_ble_eq_true rfl) rfl ?_
  obtain ⟨k_o, ⟨r_o_now, k_o_now⟩, ⟨r_o_image, k_o_image⟩, ⟨r_o_aside, k_o_aside⟩, ⟨r_o_seen, k_o_seen⟩, ⟨r_o_unlike, k_o_unlike⟩, ⟨r_o_tape, k_o_tape⟩, ⟨r_o_keys, k_o_keys⟩, ⟨r_o_keyAt, k_o_keyAt⟩, ⟨r_o_code, k_o_code⟩, ⟨r_o_waits, k_o_waits⟩, ⟨r_o_tested, k_o_tested⟩, ⟨r_o_stack, k_o_stack⟩, ⟨r_o_facts, k_o_facts⟩, ⟨r_o_sorts, k_o_sorts⟩, ⟨r_o_sizes, k_o_sizes⟩, ⟨r_o_cells, k_o_cells⟩, ⟨r_o_holds, k_o_holds⟩, ⟨r_o_holdsA, k_o_holdsA⟩, ⟨r_o_holdsB, k_o_holdsB⟩, ⟨r_o_heldCells, k_o_heldCells⟩, ⟨r_o_moved, k_o_moved⟩, ⟨r_o_tells, k_o_tells⟩⟩ := id hM
  have go : ∀ i, i < 4 → ∀ z, z ≤ 24 → mi (o + 15) i = nI z → ∀ b, b = min z 8 → mPour mi o A n v = ((mPourS (fun k => mi (o + 16) (24 * i + k)) A b).1, (mPourS (fun k => mi (o + 16) (24 * i + k)) A b).2, n) → MW X fX7_pour (rmOf 2 0 0) 0 0 26 [some (rf X o), some (.int (nI i)), some (.int 0), some (.int (nI 0)), none, none] [] S mi (mQ X 0 0 (PM S mi o (mPour mi o A n v))) := by
    intro i hi z z24 hz b hb hR
    have lp := mw_dn (P := fun k => ∀ m, m (o + 1) = (mPourS (fun k => mi (o + 16) (24 * i + k)) A k).2 → (∀ a, a ≠ o + 1 → m a = mi a) → MW X fX7_pour (rmOf 2 0 0) 0 0 26 [some (rf X o), some (.int (nI i)), some (.int (mPourS (fun k => mi (o + 16) (24 * i + k)) A k).1), some (.int (nI k)), none, none] [] S m (mQ X 0 0 (PM S mi o (mPour mi o A n v)))) b (by
      intro m h2 hF
      have e15 : m (o + 15) i = nI z := by rw [hF (o + 15) (by omega)]; exact hz
      refine mw_iload_n dX7_pour_26 rfl ?_
      refine mw_aload_n dX7_pour_27 rfl ?_
      refine mw_getr dX7_pour_28 fl_X7_54 rfl (by assumption) (by assumption) ?_
      refine mw_iload_n dX7_pour_31 rfl ?_
      refine mw_ialdK (k := i) dX7_pour_32 (by assumption) (rfl) (by omega) (by decide) ?_
      rw [e15]
      refine mw_icmp_ge (tgt := 113) dX7_pour_33 (by decide) (fun h33 => ?_) (fun h33 => ?_)
      · skip
        refine mw_iload_n dX7_pour_113 rfl ?_
        exact mw_iret dX7_pour_114 rfl (by decide) (by decide) (by rw [hR]; exact ⟨rfl, rfl, h2, fun a g1 _ _ => hF a g1⟩)
      · skip
        refine mw_iload_n dX7_pour_36 rfl ?_
        refine mw_bipush (v := 8) dX7_pour_37 (by decide) ?_
        refine mw_icmp_ge (tgt := 113) dX7_pour_39 (by decide) (fun h39 => ?_) (fun h39 => ?_)
        · skip
          refine mw_iload_n dX7_pour_113 rfl ?_
          exact mw_iret dX7_pour_114 rfl (by decide) (by decide) (by rw [hR]; exact ⟨rfl, rfl, h2, fun a g1 _ _ => hF a g1⟩)
        · skip
          exfalso
          have q1 : b < z := (nI_ltI (by omega) (by omega)).mp (Int32.not_le.mp h33)
          have q2 : b < 8 := (nI_ltI (b := 8) (by omega) (by decide)).mp (Int32.not_le.mp h39)
          omega) (fun k hk ih => by
      intro m h2 hF
      have e15 : m (o + 15) i = nI z := by rw [hF (o + 15) (by omega)]; exact hz
      have e16 : m (o + 16) (24 * i + k) = mi (o + 16) (24 * i + k) := by rw [hF (o + 16) (by omega)]
      have e18 : m (o + 1) (18 + k) = (mPourS (fun k => mi (o + 16) (24 * i + k)) A k).2 (18 + k) := by rw [h2]
      simp only [mPourS] at ih
      refine mw_iload_n dX7_pour_26 rfl ?_
      refine mw_aload_n dX7_pour_27 rfl ?_
      refine mw_getr dX7_pour_28 fl_X7_54 rfl (by assumption) (by assumption) ?_
      refine mw_iload_n dX7_pour_31 rfl ?_
      refine mw_ialdK (k := i) dX7_pour_32 (by assumption) (rfl) (by omega) (by decide) ?_
      rw [e15]
      refine mw_icmp_ge (tgt := 113) dX7_pour_33 (by decide) (fun h33 => ?_) (fun h33 => ?_)
      · skip
        first
          | exact absurd h33 (nI_ge (by omega) (by omega))
          | exact absurd h39 (nI_ge (b := 8) (by omega) (by decide))
          | fail "stop"
      · skip
        refine mw_iload_n dX7_pour_36 rfl ?_
        refine mw_bipush (v := 8) dX7_pour_37 (by decide) ?_
        refine mw_icmp_ge (tgt := 113) dX7_pour_39 (by decide) (fun h39 => ?_) (fun h39 => ?_)
        · skip
          first
            | exact absurd h33 (nI_ge (by omega) (by omega))
            | exact absurd h39 (nI_ge (b := 8) (by omega) (by decide))
            | fail "stop"
        · skip
          refine mw_aload_n dX7_pour_42 rfl ?_
          refine mw_getr dX7_pour_43 fl_X7_57 rfl (by assumption) (by assumption) ?_
          refine mw_bipush (v := 24) dX7_pour_46 (by decide) ?_
          refine mw_iload_n dX7_pour_48 rfl ?_
          refine mw_imul dX7_pour_49 ?_
          refine mw_iload_n dX7_pour_50 rfl ?_
          refine mw_iadd dX7_pour_51 ?_
          rw [ix24]
          refine mw_ialdK (k := 24 * i + k) dX7_pour_52 (by assumption) (rfl) (by omega) (by decide) ?_
          rw [e16]
          refine mw_istore dX7_pour_53 (by decide) ?_
          refine mw_iload dX7_pour_55 rfl ?_
          refine mw_ldc dX7_pour_57 cn_X7_172 ?_
          refine mw_icmp_ne (tgt := 74) dX7_pour_59 (by decide) (fun h59 => ?_) (fun h59 => ?_)
          · skip
            refine mw_iload dX7_pour_74 rfl ?_
            refine mw_iconst (v := 0) dX7_pour_76 (by decide) ?_
            refine mw_bipush (v := 99) dX7_pour_77 (by decide) ?_
            refine mw_cSI (g := fX7_within) dX7_pour_79 ml_X7_82 mfX7_within (ok_X7_within) rfl rfl (Nat.le_of_ble_eq_true rfl) ⟨by decide, by decide⟩ ⟨by decide, by decide⟩ ?_
            first
              | rw [show clampI (mi (o + 16) (24 * i + k)) 0 99 = mPourV (fun k => mi (o + 16) (24 * i + k)) (mPourS (fun k => mi (o + 16) (24 * i + k)) A k).2 k from by rw [mPourV, if_neg h59]]
              | skip
              | fail "stop"
            refine mw_istore dX7_pour_82 (by decide) ?_
            refine mw_iload_n dX7_pour_84 rfl ?_
            refine mw_aload_n dX7_pour_85 rfl ?_
            refine mw_bipush (v := 18) dX7_pour_86 (by decide) ?_
            refine mw_iload_n dX7_pour_88 rfl ?_
            refine mw_iadd dX7_pour_89 ?_
            rw [ix18]
            refine mw_iload dX7_pour_90 rfl ?_
            refine mw_cVI (g := fX7_swaps) dX7_pour_92 ml_X7_142 mfX7_swaps (ok_X7_swaps hM (s := 18 + k) (by omega)) (by assumption) rfl rfl (Nat.le_of_ble_eq_true rfl) ⟨by decide, by decide⟩ ⟨by decide, by decide⟩ ?_
            rw [e18]
            refine mw_iload dX7_pour_95 rfl ?_
            refine mw_icmp_ne (tgt := 104) dX7_pour_97 (by decide) (fun h97 => ?_) (fun h97 => ?_)
            · skip
              refine mw_iconst (v := 1) dX7_pour_104 (by decide) ?_
              refine mw_iadd dX7_pour_105 ?_
              refine mw_istN 2 dX7_pour_106 rfl (by decide) ?_
              refine mw_iincK (k := k) dX7_pour_107 rfl rfl (by decide) ?_
              refine mw_goto (tgt := 26) dX7_pour_110 (by decide) ?_
              refine MW.sub ?_ (ih _ (by rw [m_up_row, h2]) (fun a ha => by rw [m_up_ne ha]; exact hF a ha))
              first
                | (rw [if_pos h97]; simp [lsub])
                | (rw [if_neg h97]; simp [lsub])
                | fail "s26"
            · skip
              refine mw_iconst (v := 0) dX7_pour_100 (by decide) ?_
              refine mw_goto (tgt := 105) dX7_pour_101 (by decide) ?_
              refine mw_iadd dX7_pour_105 ?_
              refine mw_istN 2 dX7_pour_106 rfl (by decide) ?_
              refine mw_iincK (k := k) dX7_pour_107 rfl rfl (by decide) ?_
              refine mw_goto (tgt := 26) dX7_pour_110 (by decide) ?_
              refine MW.sub ?_ (ih _ (by rw [m_up_row, h2]) (fun a ha => by rw [m_up_ne ha]; exact hF a ha))
              first
                | (rw [if_pos h97]; simp [lsub])
                | (rw [if_neg h97]; simp [lsub])
                | fail "s26"
          · skip
            refine mw_aload_n dX7_pour_62 rfl ?_
            refine mw_getr dX7_pour_63 fl_X7_9 rfl (by assumption) (by assumption) ?_
            refine mw_bipush (v := 18) dX7_pour_66 (by decide) ?_
            refine mw_iload_n dX7_pour_68 rfl ?_
            refine mw_iadd dX7_pour_69 ?_
            rw [ix18]
            refine mw_ialdK (k := 18 + k) dX7_pour_70 (by assumption) (rfl) (by omega) (by decide) ?_
            rw [e18, show (mPourS (fun k => mi (o + 16) (24 * i + k)) A k).2 (18 + k) = mPourV (fun k => mi (o + 16) (24 * i + k)) (mPourS (fun k => mi (o + 16) (24 * i + k)) A k).2 k from by rw [mPourV, if_pos h59]]
            refine mw_goto (tgt := 82) dX7_pour_71 (by decide) ?_
            first
              | rw [show clampI (mi (o + 16) (24 * i + k)) 0 99 = mPourV (fun k => mi (o + 16) (24 * i + k)) (mPourS (fun k => mi (o + 16) (24 * i + k)) A k).2 k from by rw [mPourV, if_neg h59]]
              | skip
              | fail "stop"
            refine mw_istore dX7_pour_82 (by decide) ?_
            refine mw_iload_n dX7_pour_84 rfl ?_
            refine mw_aload_n dX7_pour_85 rfl ?_
            refine mw_bipush (v := 18) dX7_pour_86 (by decide) ?_
            refine mw_iload_n dX7_pour_88 rfl ?_
            refine mw_iadd dX7_pour_89 ?_
            rw [ix18]
            refine mw_iload dX7_pour_90 rfl ?_
            refine mw_cVI (g := fX7_swaps) dX7_pour_92 ml_X7_142 mfX7_swaps (ok_X7_swaps hM (s := 18 + k) (by omega)) (by assumption) rfl rfl (Nat.le_of_ble_eq_true rfl) ⟨by decide, by decide⟩ ⟨by decide, by decide⟩ ?_
            rw [e18]
            refine mw_iload dX7_pour_95 rfl ?_
            refine mw_icmp_ne (tgt := 104) dX7_pour_97 (by decide) (fun h97 => ?_) (fun h97 => ?_)
            · skip
              refine mw_iconst (v := 1) dX7_pour_104 (by decide) ?_
              refine mw_iadd dX7_pour_105 ?_
              refine mw_istN 2 dX7_pour_106 rfl (by decide) ?_
              refine mw_iincK (k := k) dX7_pour_107 rfl rfl (by decide) ?_
              refine mw_goto (tgt := 26) dX7_pour_110 (by decide) ?_
              refine MW.sub ?_ (ih _ (by rw [m_up_row, h2]) (fun a ha => by rw [m_up_ne ha]; exact hF a ha))
              first
                | (rw [if_pos h97]; simp [lsub])
                | (rw [if_neg h97]; simp [lsub])
                | fail "s26"
            · skip
              refine mw_iconst (v := 0) dX7_pour_100 (by decide) ?_
              refine mw_goto (tgt := 105) dX7_pour_101 (by decide) ?_
              refine mw_iadd dX7_pour_105 ?_
              refine mw_istN 2 dX7_pour_106 rfl (by decide) ?_
              refine mw_iincK (k := k) dX7_pour_107 rfl rfl (by decide) ?_
              refine mw_goto (tgt := 26) dX7_pour_110 (by decide) ?_
              refine MW.sub ?_ (ih _ (by rw [m_up_row, h2]) (fun a ha => by rw [m_up_ne ha]; exact hF a ha))
              first
                | (rw [if_pos h97]; simp [lsub])
                | (rw [if_neg h97]; simp [lsub])
                | fail "s26")
    exact MW.sub (by simp [lsub, mPourS]) (lp mi hA (fun _ _ => rfl))
  refine mw_iload_n dX7_pour_0 rfl ?_
  refine mw_cSI (g := fX7_isSheet) dX7_pour_1 ml_X7_187 mfX7_isSheet (ok_X7_isSheet) rfl rfl (Nat.le_of_ble_eq_true rfl) ⟨by decide, by decide⟩ ⟨by decide, by decide⟩ ?_
  refine mw_if_neB (tgt := 10) dX7_pour_4 (by decide) (fun h4 => ?_) (fun h4 => ?_)
  · skip
    obtain ⟨i, hi, hv⟩ := inB 3 (by decide) h4
    have ev : v.toNatClampNeg = i := by rw [hv, nI_clamp (by omega)]
    obtain ⟨y, y24, hy⟩ := hZ i (by omega)
    refine mw_aload_n dX7_pour_10 rfl ?_
    refine mw_getr dX7_pour_11 fl_X7_51 rfl (by assumption) (by assumption) ?_
    refine mw_iload_n dX7_pour_14 rfl ?_
    refine mw_ialdK (k := i) dX7_pour_15 (by assumption) (hv) (by omega) (by decide) ?_
    refine mw_if_ge (tgt := 22) dX7_pour_16 (by decide) (fun h16 => ?_) (fun h16 => ?_)
    · skip
      refine mw_iconst (v := 0) dX7_pour_22 (by decide) ?_
      refine mw_istN 2 dX7_pour_23 rfl (by decide) ?_
      refine mw_iconst (v := 0) dX7_pour_24 (by decide) ?_
      refine mw_istN 3 dX7_pour_25 rfl (by decide) ?_
      have gg := go i (by omega) y y24 hy _ rfl (by rw [mPour, if_pos h4, ev, if_neg (Int32.not_lt.mpr h16), hy, nI_clamp (by omega)])
      rw [← hv] at gg
      exact MW.sub (by simp [lsub, nI_0]) gg
    · skip
      refine mw_ldc dX7_pour_19 cn_X7_190 ?_
      exact mw_iret dX7_pour_21 rfl (by decide) (by decide) (by rw [mPour, if_pos h4, ev, if_pos (Int32.not_le.mp h16)]; exact ⟨rfl, rfl, hA, FrM.rf _ _⟩)
  · skip
    refine mw_ldc dX7_pour_7 cn_X7_127 ?_
    exact mw_iret dX7_pour_9 rfl (by decide) (by decide) (by rw [mPour, if_neg h4]; exact ⟨rfl, rfl, hA, FrM.rf _ _⟩)
def mReads (mi : Mem) (o : Nat) (A : Nat → Int32) (n : Nat) (v : Int32) : Int32 := if 0 ≤ v ∧ v ≤ 3 then (if mi (o + 14) v.toNatClampNeg < 0 then NOTHINGi else fndK (rdP (fun k => mi (o + 16) (24 * v.toNatClampNeg + k)) A n) (mi (o + 15) v.toNatClampNeg).toNatClampNeg 0) else BADi
theorem dX7_reads_0 : decode fX7_reads.2.1 0 = .ok (.iload_n 1, 1) := by decide +kernel
theorem dX7_reads_1 : decode fX7_reads.2.1 1 = .ok (.invokestatic 187, 3) := by decide +kernel
theorem dX7_reads_4 : decode fX7_reads.2.1 4 = .ok (.ifCond .ne 6, 3) := by decide +kernel
theorem dX7_reads_7 : decode fX7_reads.2.1 7 = .ok (.ldc 127, 2) := by decide +kernel
theorem dX7_reads_9 : decode fX7_reads.2.1 9 = .ok (.ireturn, 1) := by decide +kernel
theorem dX7_reads_10 : decode fX7_reads.2.1 10 = .ok (.aload_n 0, 1) := by decide +kernel
theorem dX7_reads_11 : decode fX7_reads.2.1 11 = .ok (.getfield 51, 3) := by decide +kernel
theorem dX7_reads_14 : decode fX7_reads.2.1 14 = .ok (.iload_n 1, 1) := by decide +kernel
theorem dX7_reads_15 : decode fX7_reads.2.1 15 = .ok (.iaload, 1) := by decide +kernel
theorem dX7_reads_16 : decode fX7_reads.2.1 16 = .ok (.ifCond .ge 6, 3) := by decide +kernel
theorem dX7_reads_19 : decode fX7_reads.2.1 19 = .ok (.ldc 190, 2) := by decide +kernel
theorem dX7_reads_21 : decode fX7_reads.2.1 21 = .ok (.ireturn, 1) := by decide +kernel
theorem dX7_reads_22 : decode fX7_reads.2.1 22 = .ok (.iconst 0, 1) := by decide +kernel
theorem dX7_reads_23 : decode fX7_reads.2.1 23 = .ok (.istore_n 2, 1) := by decide +kernel
theorem dX7_reads_24 : decode fX7_reads.2.1 24 = .ok (.iload_n 2, 1) := by decide +kernel
theorem dX7_reads_25 : decode fX7_reads.2.1 25 = .ok (.aload_n 0, 1) := by decide +kernel
theorem dX7_reads_26 : decode fX7_reads.2.1 26 = .ok (.getfield 54, 3) := by decide +kernel
theorem dX7_reads_29 : decode fX7_reads.2.1 29 = .ok (.iload_n 1, 1) := by decide +kernel
theorem dX7_reads_30 : decode fX7_reads.2.1 30 = .ok (.iaload, 1) := by decide +kernel
theorem dX7_reads_31 : decode fX7_reads.2.1 31 = .ok (.if_icmp .ge 47, 3) := by decide +kernel
theorem dX7_reads_34 : decode fX7_reads.2.1 34 = .ok (.aload_n 0, 1) := by decide +kernel
theorem dX7_reads_35 : decode fX7_reads.2.1 35 = .ok (.getfield 57, 3) := by decide +kernel
theorem dX7_reads_38 : decode fX7_reads.2.1 38 = .ok (.bipush 24, 2) := by decide +kernel
theorem dX7_reads_40 : decode fX7_reads.2.1 40 = .ok (.iload_n 1, 1) := by decide +kernel
theorem dX7_reads_41 : decode fX7_reads.2.1 41 = .ok (.imul, 1) := by decide +kernel
theorem dX7_reads_42 : decode fX7_reads.2.1 42 = .ok (.iload_n 2, 1) := by decide +kernel
theorem dX7_reads_43 : decode fX7_reads.2.1 43 = .ok (.iadd, 1) := by decide +kernel
theorem dX7_reads_44 : decode fX7_reads.2.1 44 = .ok (.iaload, 1) := by decide +kernel
theorem dX7_reads_45 : decode fX7_reads.2.1 45 = .ok (.istore_n 3, 1) := by decide +kernel
theorem dX7_reads_46 : decode fX7_reads.2.1 46 = .ok (.iload_n 3, 1) := by decide +kernel
theorem dX7_reads_47 : decode fX7_reads.2.1 47 = .ok (.ldc 172, 2) := by decide +kernel
theorem dX7_reads_49 : decode fX7_reads.2.1 49 = .ok (.if_icmp .eq 23, 3) := by decide +kernel
theorem dX7_reads_52 : decode fX7_reads.2.1 52 = .ok (.aload_n 0, 1) := by decide +kernel
theorem dX7_reads_53 : decode fX7_reads.2.1 53 = .ok (.iload_n 2, 1) := by decide +kernel
theorem dX7_reads_54 : decode fX7_reads.2.1 54 = .ok (.invokevirtual 132, 3) := by decide +kernel
theorem dX7_reads_57 : decode fX7_reads.2.1 57 = .ok (.ifCond .eq 13, 3) := by decide +kernel
theorem dX7_reads_60 : decode fX7_reads.2.1 60 = .ok (.iload_n 3, 1) := by decide +kernel
theorem dX7_reads_61 : decode fX7_reads.2.1 61 = .ok (.aload_n 0, 1) := by decide +kernel
theorem dX7_reads_62 : decode fX7_reads.2.1 62 = .ok (.iload_n 2, 1) := by decide +kernel
theorem dX7_reads_63 : decode fX7_reads.2.1 63 = .ok (.iconst 1, 1) := by decide +kernel
theorem dX7_reads_64 : decode fX7_reads.2.1 64 = .ok (.invokevirtual 86, 3) := by decide +kernel
theorem dX7_reads_67 : decode fX7_reads.2.1 67 = .ok (.if_icmp .eq 5, 3) := by decide +kernel
theorem dX7_reads_70 : decode fX7_reads.2.1 70 = .ok (.iload_n 2, 1) := by decide +kernel
theorem dX7_reads_71 : decode fX7_reads.2.1 71 = .ok (.ireturn, 1) := by decide +kernel
theorem dX7_reads_72 : decode fX7_reads.2.1 72 = .ok (.iinc 2 1, 3) := by decide +kernel
theorem dX7_reads_75 : decode fX7_reads.2.1 75 = .ok (.goto (-51), 3) := by decide +kernel
theorem dX7_reads_78 : decode fX7_reads.2.1 78 = .ok (.ldc 172, 2) := by decide +kernel
theorem dX7_reads_80 : decode fX7_reads.2.1 80 = .ok (.ireturn, 1) := by decide +kernel
set_option maxRecDepth 100000 in
set_option maxHeartbeats 4000000 in
theorem ok_X7_reads {X : Xb} {S : Sg} {mi : Mem} {o n : Nat} {A : Nat → Int32} {v : Int32} (hM : MdA S o) (hZ : MsZ mi o) (hn8 : n ≤ 8) (hA : mi (o + 1) = A) (hn : A 1 = nI n) : Ok 2 0 0 fX7_reads X [rf X o, .int v] S mi (PE S (mReads mi o A n v, mi)) := by
  refine Ok.go [some (rf X o), some (.int v), none, none] (by decide) (by simp [Value.category]) (Nat.le_of_ble_eq_true rfl) rfl ?_
  obtain ⟨k_o, ⟨r_o_now, k_o_now⟩, ⟨r_o_image, k_o_image⟩, ⟨r_o_aside, k_o_aside⟩, ⟨r_o_seen, k_o_seen⟩, ⟨r_o_unlike, k_o_unlike⟩, ⟨r_o_tape, k_o_tape⟩, ⟨r_o_keys, k_o_keys⟩, ⟨r_o_keyAt, k_o_keyAt⟩, ⟨r_o_code, k_o_code⟩, ⟨r_o_waits, k_o_waits⟩, ⟨r_o_tested, k_o_tested⟩, ⟨r_o_stack, k_o_stack⟩, ⟨r_o_facts, k_o_facts⟩, ⟨r_o_sorts, k_o_sorts⟩, ⟨r_o_sizes, k_o_sizes⟩, ⟨r_o_cells, k_o_cells⟩, ⟨r_o_holds, k_o_holds⟩, ⟨r_o_holdsA, k_o_holdsA⟩, ⟨r_o_holdsB, k_o_holdsB⟩, ⟨r_o_heldCells, k_o_heldCells⟩, ⟨r_o_moved, k_o_moved⟩, ⟨r_o_tells, k_o_tells⟩⟩ := id hM
  have en : mi (o + 1) 1 = nI n := by rw [hA, hn]
  have go : ∀ i, i < 4 → ∀ z, z ≤ 24 → mi (o + 15) i = nI z → ∀ f k, f + k = z → fndK (rdP (fun k => mi (o + 16) (24 * i + k)) A n) f k = mReads mi o A n v → MW X fX7_reads (rmOf 2 0 0) 0 0 24 [some (rf X o), some (.int (nI i)), some (.int (nI k)), none] [] S mi (mQ X 0 0 (PE S (mReads mi o A n v, mi))) := by
    intro i hi z z24 hz f
    induction f with
    | zero =>
      intro k hk hR
      obtain rfl : k = z := by omega
      refine mw_iload_n dX7_reads_24 rfl ?_
      refine mw_aload_n dX7_reads_25 rfl ?_
      refine mw_getr dX7_reads_26 fl_X7_54 rfl (by assumption) (by assumption) ?_
      refine mw_iload_n dX7_reads_29 rfl ?_
      refine mw_ialdK (k := i) dX7_reads_30 (by assumption) (rfl) (by omega) (by decide) ?_
      rw [hz]
      refine mw_icmp_ge (tgt := 78) dX7_reads_31 (by decide) (fun h31 => ?_) (fun h31 => ?_)
      · skip
        refine mw_ldc dX7_reads_78 cn_X7_172 ?_
        exact mw_iret dX7_reads_80 rfl (by decide) (by decide) (by rw [← hR]; exact ⟨rfl, rfl, rfl⟩)
      · skip
        exact absurd (Int32.le_refl _) h31
    | succ f ih =>
      intro k hk hR
      simp only [fndK] at hR
      refine mw_iload_n dX7_reads_24 rfl ?_
      refine mw_aload_n dX7_reads_25 rfl ?_
      refine mw_getr dX7_reads_26 fl_X7_54 rfl (by assumption) (by assumption) ?_
      refine mw_iload_n dX7_reads_29 rfl ?_
      refine mw_ialdK (k := i) dX7_reads_30 (by assumption) (rfl) (by omega) (by decide) ?_
      rw [hz]
      refine mw_icmp_ge (tgt := 78) dX7_reads_31 (by decide) (fun h31 => ?_) (fun h31 => ?_)
      · skip
        exact absurd h31 (nI_ge (by omega) (by omega))
      · skip
        refine mw_aload_n dX7_reads_34 rfl ?_
        refine mw_getr dX7_reads_35 fl_X7_57 rfl (by assumption) (by assumption) ?_
        refine mw_bipush (v := 24) dX7_reads_38 (by decide) ?_
        refine mw_iload_n dX7_reads_40 rfl ?_
        refine mw_imul dX7_reads_41 ?_
        refine mw_iload_n dX7_reads_42 rfl ?_
        refine mw_iadd dX7_reads_43 ?_
        rw [ix24]
        refine mw_ialdK (k := 24 * i + k) dX7_reads_44 (by assumption) (rfl) (by omega) (by decide) ?_
        refine mw_istN 3 dX7_reads_45 rfl (by decide) ?_
        refine mw_iload_n dX7_reads_46 rfl ?_
        refine mw_ldc dX7_reads_47 cn_X7_172 ?_
        refine mw_icmp_eq (tgt := 72) dX7_reads_49 (by decide) (fun h49 => ?_) (fun h49 => ?_)
        · skip
          refine mw_iincK (k := k) dX7_reads_72 rfl rfl (by decide) ?_
          refine mw_goto (tgt := 24) dX7_reads_75 (by decide) ?_
          refine MW.sub (by simp [lsub]) (ih (k + 1) (by omega) ?_)
          first
            | (have q1 := kn; have q2 := h67; rw [if_neg (by simp [rdP, q1, q2])] at hR; exact hR)
            | (have q1 := h49; rw [if_neg (by simp [rdP, q1])] at hR; exact hR)
        · skip
          refine mw_aload_n dX7_reads_52 rfl ?_
          refine mw_iload_n dX7_reads_53 rfl ?_
          refine mw_cVI (g := fX7_isAttic) dX7_reads_54 ml_X7_132 mfX7_isAttic (ok_X7_isAttic hM) (by assumption) rfl rfl (Nat.le_of_ble_eq_true rfl) ⟨by decide, by decide⟩ ⟨by decide, by decide⟩ ?_
          rw [en]
          refine mw_if_eqB (tgt := 70) dX7_reads_57 (by decide) (fun h57 => ?_) (fun h57 => ?_)
          · skip
            refine mw_iload_n dX7_reads_70 rfl ?_
            exact mw_iret dX7_reads_71 rfl (by decide) (by decide) (by first | (have q1 := kn; have q2 := h67; rw [if_pos (by simp [rdP, h49, q1, q2])] at hR; rw [← hR]; exact ⟨rfl, rfl, rfl⟩) | (rw [if_pos (by simp only [rdP, Bool.and_eq_true, Bool.not_eq_true', decide_eq_false_iff_not, Bool.and_eq_false_iff]; exact ⟨h49, Or.inl (fun g => h57 (Nin g (by omega)))⟩)] at hR; rw [← hR]; exact ⟨rfl, rfl, rfl⟩) | fail "leaf")
          · skip
            have kn : k < n := by
              obtain ⟨a, ha, e⟩ := inAt h57 hn8
              have : k = a := (nI_eq (by omega) (by omega)).mp e
              omega
            have ef : mi (o + 1) (26 + 5 * k + 1) = A (26 + 5 * k + 1) := by rw [hA]
            refine mw_iload_n dX7_reads_60 rfl ?_
            refine mw_aload_n dX7_reads_61 rfl ?_
            refine mw_iload_n dX7_reads_62 rfl ?_
            refine mw_iconst (v := 1) dX7_reads_63 (by decide) ?_
            refine mw_cVI (g := fX7_of) dX7_reads_64 ml_X7_86 mfX7_of (ok_X7_of hM (a := k) (w := 1) (by omega) (by decide)) (by assumption) rfl rfl (Nat.le_of_ble_eq_true rfl) ⟨by decide, by decide⟩ ⟨by decide, by decide⟩ ?_
            rw [ef]
            refine mw_icmp_eq (tgt := 72) dX7_reads_67 (by decide) (fun h67 => ?_) (fun h67 => ?_)
            · skip
              refine mw_iincK (k := k) dX7_reads_72 rfl rfl (by decide) ?_
              refine mw_goto (tgt := 24) dX7_reads_75 (by decide) ?_
              refine MW.sub (by simp [lsub]) (ih (k + 1) (by omega) ?_)
              first
                | (have q1 := kn; have q2 := h67; rw [if_neg (by simp [rdP, q1, q2])] at hR; exact hR)
                | (have q1 := h49; rw [if_neg (by simp [rdP, q1])] at hR; exact hR)
            · skip
              refine mw_iload_n dX7_reads_70 rfl ?_
              exact mw_iret dX7_reads_71 rfl (by decide) (by decide) (by first | (have q1 := kn; have q2 := h67; rw [if_pos (by simp [rdP, h49, q1, q2])] at hR; rw [← hR]; exact ⟨rfl, rfl, rfl⟩) | (rw [if_pos (by simp only [rdP, Bool.and_eq_true, Bool.not_eq_true', decide_eq_false_iff_not, Bool.and_eq_false_iff]; exact ⟨h49, Or.inl (fun g => h57 (Nin g (by omega)))⟩)] at hR; rw [← hR]; exact ⟨rfl, rfl, rfl⟩) | fail "leaf")
  refine mw_iload_n dX7_reads_0 rfl ?_
  refine mw_cSI (g := fX7_isSheet) dX7_reads_1 ml_X7_187 mfX7_isSheet (ok_X7_isSheet) rfl rfl (Nat.le_of_ble_eq_true rfl) ⟨by decide, by decide⟩ ⟨by decide, by decide⟩ ?_
  refine mw_if_neB (tgt := 10) dX7_reads_4 (by decide) (fun h4 => ?_) (fun h4 => ?_)
  · skip
    obtain ⟨i, hi, hv⟩ := inB 3 (by decide) h4
    have ev : v.toNatClampNeg = i := by rw [hv, nI_clamp (by omega)]
    obtain ⟨y, y24, hy⟩ := hZ i (by omega)
    refine mw_aload_n dX7_reads_10 rfl ?_
    refine mw_getr dX7_reads_11 fl_X7_51 rfl (by assumption) (by assumption) ?_
    refine mw_iload_n dX7_reads_14 rfl ?_
    refine mw_ialdK (k := i) dX7_reads_15 (by assumption) (hv) (by omega) (by decide) ?_
    refine mw_if_ge (tgt := 22) dX7_reads_16 (by decide) (fun h16 => ?_) (fun h16 => ?_)
    · skip
      refine mw_iconst (v := 0) dX7_reads_22 (by decide) ?_
      refine mw_istN 2 dX7_reads_23 rfl (by decide) ?_
      have gg := go i (by omega) y y24 hy y 0 rfl (by rw [mReads, if_pos h4, ev, if_neg (Int32.not_lt.mpr h16), hy, nI_clamp (by omega)])
      rw [← hv] at gg
      exact MW.sub (by simp [lsub, nI_0]) gg
    · skip
      refine mw_ldc dX7_reads_19 cn_X7_190 ?_
      exact mw_iret dX7_reads_21 rfl (by decide) (by decide) (by rw [mReads, if_pos h4, ev, if_pos (Int32.not_le.mp h16)]; exact ⟨rfl, rfl, rfl⟩)
  · skip
    refine mw_ldc dX7_reads_7 cn_X7_127 ?_
    exact mw_iret dX7_reads_9 rfl (by decide) (by decide) (by rw [mReads, if_neg h4]; exact ⟨rfl, rfl, rfl⟩)
def layA (mi : Mem) (o : Nat) (w k : Int32) : Int32 := if w = 1 then mi (o + 1) (26 + 5 * k.toNatClampNeg) else if w = 2 then mi (o + 15) k.toNatClampNeg else k
def layB (mi : Mem) (o : Nat) (w k : Int32) : Int32 := if w = 1 then mi (o + 1) (26 + 5 * k.toNatClampNeg + 2) else 0
def mLay (mi : Mem) (o n : Nat) (v w k : Int32) : Int32 × Mem := if (0 ≤ v ∧ v ≤ 4) ∧ (0 ≤ w ∧ w ≤ 3) ∧ (w = 1 → 0 ≤ k ∧ k ≤ nI n - 1) ∧ (w = 2 → 0 ≤ k ∧ k ≤ 3) then (if w = 2 ∧ mi (o + 14) k.toNatClampNeg < 0 then (NOTHINGi, mi) else (mi (o + 17) v.toNatClampNeg, m_row (m_up (m_up (m_up mi (o + 17) v.toNatClampNeg w) (o + 18) v.toNatClampNeg (layA mi o w k)) (o + 19) v.toNatClampNeg (layB mi o w k)) (o + 20) (if w = 2 then cpC (mi (o + 20)) (fun j => mi (o + 16) (24 * k.toNatClampNeg + j)) (24 * v.toNatClampNeg) 24 else mi (o + 20)))) else (BADi, mi)
theorem dX7_lay_0 : decode fX7_lay.2.1 0 = .ok (.iload_n 1, 1) := by decide +kernel
theorem dX7_lay_1 : decode fX7_lay.2.1 1 = .ok (.invokestatic 266, 3) := by decide +kernel
theorem dX7_lay_4 : decode fX7_lay.2.1 4 = .ok (.ifCond .eq 37, 3) := by decide +kernel
theorem dX7_lay_7 : decode fX7_lay.2.1 7 = .ok (.iload_n 2, 1) := by decide +kernel
theorem dX7_lay_8 : decode fX7_lay.2.1 8 = .ok (.iconst 0, 1) := by decide +kernel
theorem dX7_lay_9 : decode fX7_lay.2.1 9 = .ok (.iconst 3, 1) := by decide +kernel
theorem dX7_lay_10 : decode fX7_lay.2.1 10 = .ok (.invokestatic 78, 3) := by decide +kernel
theorem dX7_lay_13 : decode fX7_lay.2.1 13 = .ok (.ifCond .eq 28, 3) := by decide +kernel
theorem dX7_lay_16 : decode fX7_lay.2.1 16 = .ok (.iload_n 2, 1) := by decide +kernel
theorem dX7_lay_17 : decode fX7_lay.2.1 17 = .ok (.iconst 1, 1) := by decide +kernel
theorem dX7_lay_18 : decode fX7_lay.2.1 18 = .ok (.if_icmp .ne 11, 3) := by decide +kernel
theorem dX7_lay_21 : decode fX7_lay.2.1 21 = .ok (.aload_n 0, 1) := by decide +kernel
theorem dX7_lay_22 : decode fX7_lay.2.1 22 = .ok (.iload_n 3, 1) := by decide +kernel
theorem dX7_lay_23 : decode fX7_lay.2.1 23 = .ok (.invokevirtual 132, 3) := by decide +kernel
theorem dX7_lay_26 : decode fX7_lay.2.1 26 = .ok (.ifCond .eq 15, 3) := by decide +kernel
theorem dX7_lay_29 : decode fX7_lay.2.1 29 = .ok (.iload_n 2, 1) := by decide +kernel
theorem dX7_lay_30 : decode fX7_lay.2.1 30 = .ok (.iconst 2, 1) := by decide +kernel
theorem dX7_lay_31 : decode fX7_lay.2.1 31 = .ok (.if_icmp .ne 13, 3) := by decide +kernel
theorem dX7_lay_34 : decode fX7_lay.2.1 34 = .ok (.iload_n 3, 1) := by decide +kernel
theorem dX7_lay_35 : decode fX7_lay.2.1 35 = .ok (.invokestatic 187, 3) := by decide +kernel
theorem dX7_lay_38 : decode fX7_lay.2.1 38 = .ok (.ifCond .ne 6, 3) := by decide +kernel
theorem dX7_lay_41 : decode fX7_lay.2.1 41 = .ok (.ldc 127, 2) := by decide +kernel
theorem dX7_lay_43 : decode fX7_lay.2.1 43 = .ok (.ireturn, 1) := by decide +kernel
theorem dX7_lay_44 : decode fX7_lay.2.1 44 = .ok (.iload_n 2, 1) := by decide +kernel
theorem dX7_lay_45 : decode fX7_lay.2.1 45 = .ok (.iconst 2, 1) := by decide +kernel
theorem dX7_lay_46 : decode fX7_lay.2.1 46 = .ok (.if_icmp .ne 15, 3) := by decide +kernel
theorem dX7_lay_49 : decode fX7_lay.2.1 49 = .ok (.aload_n 0, 1) := by decide +kernel
theorem dX7_lay_50 : decode fX7_lay.2.1 50 = .ok (.getfield 51, 3) := by decide +kernel
theorem dX7_lay_53 : decode fX7_lay.2.1 53 = .ok (.iload_n 3, 1) := by decide +kernel
theorem dX7_lay_54 : decode fX7_lay.2.1 54 = .ok (.iaload, 1) := by decide +kernel
theorem dX7_lay_55 : decode fX7_lay.2.1 55 = .ok (.ifCond .ge 6, 3) := by decide +kernel
theorem dX7_lay_58 : decode fX7_lay.2.1 58 = .ok (.ldc 190, 2) := by decide +kernel
theorem dX7_lay_60 : decode fX7_lay.2.1 60 = .ok (.ireturn, 1) := by decide +kernel
theorem dX7_lay_61 : decode fX7_lay.2.1 61 = .ok (.aload_n 0, 1) := by decide +kernel
theorem dX7_lay_62 : decode fX7_lay.2.1 62 = .ok (.getfield 60, 3) := by decide +kernel
theorem dX7_lay_65 : decode fX7_lay.2.1 65 = .ok (.iload_n 1, 1) := by decide +kernel
theorem dX7_lay_66 : decode fX7_lay.2.1 66 = .ok (.iaload, 1) := by decide +kernel
theorem dX7_lay_67 : decode fX7_lay.2.1 67 = .ok (.istore 4, 2) := by decide +kernel
theorem dX7_lay_69 : decode fX7_lay.2.1 69 = .ok (.aload_n 0, 1) := by decide +kernel
theorem dX7_lay_70 : decode fX7_lay.2.1 70 = .ok (.getfield 60, 3) := by decide +kernel
theorem dX7_lay_73 : decode fX7_lay.2.1 73 = .ok (.iload_n 1, 1) := by decide +kernel
theorem dX7_lay_74 : decode fX7_lay.2.1 74 = .ok (.iload_n 2, 1) := by decide +kernel
theorem dX7_lay_75 : decode fX7_lay.2.1 75 = .ok (.iastore, 1) := by decide +kernel
theorem dX7_lay_76 : decode fX7_lay.2.1 76 = .ok (.aload_n 0, 1) := by decide +kernel
theorem dX7_lay_77 : decode fX7_lay.2.1 77 = .ok (.getfield 63, 3) := by decide +kernel
theorem dX7_lay_80 : decode fX7_lay.2.1 80 = .ok (.iload_n 1, 1) := by decide +kernel
theorem dX7_lay_81 : decode fX7_lay.2.1 81 = .ok (.iload_n 2, 1) := by decide +kernel
theorem dX7_lay_82 : decode fX7_lay.2.1 82 = .ok (.iconst 1, 1) := by decide +kernel
theorem dX7_lay_83 : decode fX7_lay.2.1 83 = .ok (.if_icmp .ne 12, 3) := by decide +kernel
theorem dX7_lay_86 : decode fX7_lay.2.1 86 = .ok (.aload_n 0, 1) := by decide +kernel
theorem dX7_lay_87 : decode fX7_lay.2.1 87 = .ok (.iload_n 3, 1) := by decide +kernel
theorem dX7_lay_88 : decode fX7_lay.2.1 88 = .ok (.iconst 0, 1) := by decide +kernel
theorem dX7_lay_89 : decode fX7_lay.2.1 89 = .ok (.invokevirtual 86, 3) := by decide +kernel
theorem dX7_lay_92 : decode fX7_lay.2.1 92 = .ok (.goto 18, 3) := by decide +kernel
theorem dX7_lay_95 : decode fX7_lay.2.1 95 = .ok (.iload_n 2, 1) := by decide +kernel
theorem dX7_lay_96 : decode fX7_lay.2.1 96 = .ok (.iconst 2, 1) := by decide +kernel
theorem dX7_lay_97 : decode fX7_lay.2.1 97 = .ok (.if_icmp .ne 12, 3) := by decide +kernel
theorem dX7_lay_100 : decode fX7_lay.2.1 100 = .ok (.aload_n 0, 1) := by decide +kernel
theorem dX7_lay_101 : decode fX7_lay.2.1 101 = .ok (.getfield 54, 3) := by decide +kernel
theorem dX7_lay_104 : decode fX7_lay.2.1 104 = .ok (.iload_n 3, 1) := by decide +kernel
theorem dX7_lay_105 : decode fX7_lay.2.1 105 = .ok (.iaload, 1) := by decide +kernel
theorem dX7_lay_106 : decode fX7_lay.2.1 106 = .ok (.goto 4, 3) := by decide +kernel
theorem dX7_lay_109 : decode fX7_lay.2.1 109 = .ok (.iload_n 3, 1) := by decide +kernel
theorem dX7_lay_110 : decode fX7_lay.2.1 110 = .ok (.iastore, 1) := by decide +kernel
theorem dX7_lay_111 : decode fX7_lay.2.1 111 = .ok (.aload_n 0, 1) := by decide +kernel
theorem dX7_lay_112 : decode fX7_lay.2.1 112 = .ok (.getfield 66, 3) := by decide +kernel
theorem dX7_lay_115 : decode fX7_lay.2.1 115 = .ok (.iload_n 1, 1) := by decide +kernel
theorem dX7_lay_116 : decode fX7_lay.2.1 116 = .ok (.iload_n 2, 1) := by decide +kernel
theorem dX7_lay_117 : decode fX7_lay.2.1 117 = .ok (.iconst 1, 1) := by decide +kernel
theorem dX7_lay_118 : decode fX7_lay.2.1 118 = .ok (.if_icmp .ne 11, 3) := by decide +kernel
theorem dX7_lay_121 : decode fX7_lay.2.1 121 = .ok (.aload_n 0, 1) := by decide +kernel
theorem dX7_lay_122 : decode fX7_lay.2.1 122 = .ok (.iload_n 3, 1) := by decide +kernel
theorem dX7_lay_123 : decode fX7_lay.2.1 123 = .ok (.invokevirtual 269, 3) := by decide +kernel
theorem dX7_lay_126 : decode fX7_lay.2.1 126 = .ok (.goto 4, 3) := by decide +kernel
theorem dX7_lay_129 : decode fX7_lay.2.1 129 = .ok (.iconst 0, 1) := by decide +kernel
theorem dX7_lay_130 : decode fX7_lay.2.1 130 = .ok (.iastore, 1) := by decide +kernel
theorem dX7_lay_131 : decode fX7_lay.2.1 131 = .ok (.iconst 0, 1) := by decide +kernel
theorem dX7_lay_132 : decode fX7_lay.2.1 132 = .ok (.istore 5, 2) := by decide +kernel
theorem dX7_lay_134 : decode fX7_lay.2.1 134 = .ok (.iload 5, 2) := by decide +kernel
theorem dX7_lay_136 : decode fX7_lay.2.1 136 = .ok (.bipush 24, 2) := by decide +kernel
theorem dX7_lay_138 : decode fX7_lay.2.1 138 = .ok (.if_icmp .ge 38, 3) := by decide +kernel
theorem dX7_lay_141 : decode fX7_lay.2.1 141 = .ok (.iload_n 2, 1) := by decide +kernel
theorem dX7_lay_142 : decode fX7_lay.2.1 142 = .ok (.iconst 2, 1) := by decide +kernel
theorem dX7_lay_143 : decode fX7_lay.2.1 143 = .ok (.if_icmp .ne 33, 3) := by decide +kernel
theorem dX7_lay_146 : decode fX7_lay.2.1 146 = .ok (.aload_n 0, 1) := by decide +kernel
theorem dX7_lay_147 : decode fX7_lay.2.1 147 = .ok (.getfield 69, 3) := by decide +kernel
theorem dX7_lay_150 : decode fX7_lay.2.1 150 = .ok (.bipush 24, 2) := by decide +kernel
theorem dX7_lay_152 : decode fX7_lay.2.1 152 = .ok (.iload_n 1, 1) := by decide +kernel
theorem dX7_lay_153 : decode fX7_lay.2.1 153 = .ok (.imul, 1) := by decide +kernel
theorem dX7_lay_154 : decode fX7_lay.2.1 154 = .ok (.iload 5, 2) := by decide +kernel
theorem dX7_lay_156 : decode fX7_lay.2.1 156 = .ok (.iadd, 1) := by decide +kernel
theorem dX7_lay_157 : decode fX7_lay.2.1 157 = .ok (.aload_n 0, 1) := by decide +kernel
theorem dX7_lay_158 : decode fX7_lay.2.1 158 = .ok (.getfield 57, 3) := by decide +kernel
theorem dX7_lay_161 : decode fX7_lay.2.1 161 = .ok (.bipush 24, 2) := by decide +kernel
theorem dX7_lay_163 : decode fX7_lay.2.1 163 = .ok (.iload_n 3, 1) := by decide +kernel
theorem dX7_lay_164 : decode fX7_lay.2.1 164 = .ok (.imul, 1) := by decide +kernel
theorem dX7_lay_165 : decode fX7_lay.2.1 165 = .ok (.iload 5, 2) := by decide +kernel
theorem dX7_lay_167 : decode fX7_lay.2.1 167 = .ok (.iadd, 1) := by decide +kernel
theorem dX7_lay_168 : decode fX7_lay.2.1 168 = .ok (.iaload, 1) := by decide +kernel
theorem dX7_lay_169 : decode fX7_lay.2.1 169 = .ok (.iastore, 1) := by decide +kernel
theorem dX7_lay_170 : decode fX7_lay.2.1 170 = .ok (.iinc 5 1, 3) := by decide +kernel
theorem dX7_lay_173 : decode fX7_lay.2.1 173 = .ok (.goto (-39), 3) := by decide +kernel
theorem dX7_lay_176 : decode fX7_lay.2.1 176 = .ok (.iload 4, 2) := by decide +kernel
theorem dX7_lay_178 : decode fX7_lay.2.1 178 = .ok (.ireturn, 1) := by decide +kernel
set_option maxRecDepth 100000 in
set_option maxHeartbeats 4000000 in
theorem ok_X7_lay {X : Xb} {S : Sg} {mi : Mem} {o n : Nat} {v w y : Int32} (hM : MdA S o) (hn : mi (o + 1) 1 = nI n) (hn8 : n ≤ 8) : Ok 2 0 0 fX7_lay X [rf X o, .int v, .int w, .int y] S mi (PE S (mLay mi o n v w y)) := by
  refine Ok.go [some (rf X o), some (.int v), some (.int w), some (.int y), none, none] (by decide) (by simp [Value.category]) (Nat.le_of_ble_eq_true rfl) rfl ?_
  obtain ⟨k_o, ⟨r_o_now, k_o_now⟩, ⟨r_o_image, k_o_image⟩, ⟨r_o_aside, k_o_aside⟩, ⟨r_o_seen, k_o_seen⟩, ⟨r_o_unlike, k_o_unlike⟩, ⟨r_o_tape, k_o_tape⟩, ⟨r_o_keys, k_o_keys⟩, ⟨r_o_keyAt, k_o_keyAt⟩, ⟨r_o_code, k_o_code⟩, ⟨r_o_waits, k_o_waits⟩, ⟨r_o_tested, k_o_tested⟩, ⟨r_o_stack, k_o_stack⟩, ⟨r_o_facts, k_o_facts⟩, ⟨r_o_sorts, k_o_sorts⟩, ⟨r_o_sizes, k_o_sizes⟩, ⟨r_o_cells, k_o_cells⟩, ⟨r_o_holds, k_o_holds⟩, ⟨r_o_holdsA, k_o_holdsA⟩, ⟨r_o_holdsB, k_o_holdsB⟩, ⟨r_o_heldCells, k_o_heldCells⟩, ⟨r_o_moved, k_o_moved⟩, ⟨r_o_tells, k_o_tells⟩⟩ := id hM
  have s134 : ∀ i, i < 5 → ∀ h : Int32, mLay mi o n v w y = (h, m_row (m_up (m_up (m_up mi (o + 17) i w) (o + 18) i (layA mi o w y)) (o + 19) i (layB mi o w y)) (o + 20) (if w = 2 then cpC (mi (o + 20)) (fun j => mi (o + 16) (24 * y.toNatClampNeg + j)) (24 * i) 24 else mi (o + 20))) → (w = 2 → ∃ b, b < 4 ∧ y = nI b) → MW X fX7_lay (rmOf 2 0 0) 0 0 134 [some (rf X o), some (.int (nI i)), some (.int w), some (.int y), some (.int h), some (.int (nI 0))] [] S (m_up (m_up (m_up mi (o + 17) i w) (o + 18) i (layA mi o w y)) (o + 19) i (layB mi o w y)) (mQ X 0 0 (PE S (mLay mi o n v w y))) := by
    intro i hi h hR hk2
    have e20 : (m_up (m_up (m_up mi (o + 17) i w) (o + 18) i (layA mi o w y)) (o + 19) i (layB mi o w y)) (o + 20) = mi (o + 20) := by rw [m_up_ne (by omega), m_up_ne (by omega), m_up_ne (by omega)]
    by_cases cw : w = 2
    · obtain ⟨b, hb, hk⟩ := hk2 cw
      have ek : y.toNatClampNeg = b := by rw [hk, nI_clamp (by omega)]
      rw [if_pos cw, ek] at hR
      have e16 : ∀ j, (m_up (m_up (m_up mi (o + 17) i w) (o + 18) i (layA mi o w y)) (o + 19) i (layB mi o w y)) (o + 16) j = mi (o + 16) j := fun j => by rw [m_up_ne (by omega), m_up_ne (by omega), m_up_ne (by omega)]
      generalize (m_up (m_up (m_up mi (o + 17) i w) (o + 18) i (layA mi o w y)) (o + 19) i (layB mi o w y)) = M1 at hR e20 e16
      have lp := mw_dn (P := fun k => MW X fX7_lay (rmOf 2 0 0) 0 0 134 [some (rf X o), some (.int (nI i)), some (.int w), some (.int (nI b)), some (.int h), some (.int (nI k))] [] S (m_row M1 (o + 20) (cpC (mi (o + 20)) (fun j => mi (o + 16) (24 * b + j)) (24 * i) k)) (mQ X 0 0 (PE S (mLay mi o n v w y)))) 24 (by
        refine mw_iload dX7_lay_134 rfl ?_
        refine mw_bipush (v := 24) dX7_lay_136 (by decide) ?_
        refine mw_icmp_ge (tgt := 176) dX7_lay_138 (by decide) (fun h138 => ?_) (fun h138 => ?_)
        · skip
          refine mw_iload dX7_lay_176 rfl ?_
          exact mw_iret dX7_lay_178 rfl (by decide) (by decide) (by rw [hR]; exact ⟨rfl, rfl, rfl⟩)
        · skip
          exact absurd (by decide) h138) (fun k hk ih => by
        refine mw_iload dX7_lay_134 rfl ?_
        refine mw_bipush (v := 24) dX7_lay_136 (by decide) ?_
        refine mw_icmp_ge (tgt := 176) dX7_lay_138 (by decide) (fun h138 => ?_) (fun h138 => ?_)
        · skip
          first
            | exact absurd h138 (nI_ge (b := 24) hk (by decide))
            | exact absurd cw h143
            | fail "stop"
        · skip
          refine mw_iload_n dX7_lay_141 rfl ?_
          refine mw_iconst (v := 2) dX7_lay_142 (by decide) ?_
          refine mw_icmp_ne (tgt := 176) dX7_lay_143 (by decide) (fun h143 => ?_) (fun h143 => ?_)
          · skip
            first
              | exact absurd h138 (nI_ge (b := 24) hk (by decide))
              | exact absurd cw h143
              | fail "stop"
          · skip
            refine mw_aload_n dX7_lay_146 rfl ?_
            refine mw_getr dX7_lay_147 fl_X7_69 rfl (by assumption) (by assumption) ?_
            refine mw_bipush (v := 24) dX7_lay_150 (by decide) ?_
            refine mw_iload_n dX7_lay_152 rfl ?_
            refine mw_imul dX7_lay_153 ?_
            refine mw_iload dX7_lay_154 rfl ?_
            refine mw_iadd dX7_lay_156 ?_
            rw [ix24]
            refine mw_aload_n dX7_lay_157 rfl ?_
            refine mw_getr dX7_lay_158 fl_X7_57 rfl (by assumption) (by assumption) ?_
            refine mw_bipush (v := 24) dX7_lay_161 (by decide) ?_
            refine mw_iload_n dX7_lay_163 rfl ?_
            refine mw_imul dX7_lay_164 ?_
            refine mw_iload dX7_lay_165 rfl ?_
            refine mw_iadd dX7_lay_167 ?_
            rw [ix24]
            refine mw_ialdK (k := 24 * b + k) dX7_lay_168 (by assumption) (rfl) (by omega) (by decide) ?_
            rw [m_row_ne (show o + 16 ≠ o + 20 by omega), e16]
            refine mw_iastK (k := 24 * i + k) dX7_lay_169 (by assumption) (rfl) (by omega) (by decide) ?_
            rw [m_up_mrow, show upd (cpC (mi (o + 20)) (fun j => mi (o + 16) (24 * b + j)) (24 * i) k) (24 * i + k) (mi (o + 16) (24 * b + k)) = cpC (mi (o + 20)) (fun j => mi (o + 16) (24 * b + j)) (24 * i) (k + 1) from cpC_s _ (fun j => mi (o + 16) (24 * b + j)) _ _]
            refine mw_iincK (k := k) dX7_lay_170 rfl rfl (by decide) ?_
            refine mw_goto (tgt := 134) dX7_lay_173 (by decide) ?_
            exact MW.sub (by simp [lsub]) ih)
      rw [cpC_0, ← e20, m_row_id] at lp
      rw [hk] at lp ⊢
      exact lp
    · rw [if_neg cw, ← e20, m_row_id] at hR
      refine mw_iload dX7_lay_134 rfl ?_
      refine mw_bipush (v := 24) dX7_lay_136 (by decide) ?_
      refine mw_icmp_ge (tgt := 176) dX7_lay_138 (by decide) (fun h138 => ?_) (fun h138 => ?_)
      · skip
        refine mw_iload dX7_lay_176 rfl ?_
        exact mw_iret dX7_lay_178 rfl (by decide) (by decide) (by rw [hR]; exact ⟨rfl, rfl, rfl⟩)
      · skip
        refine mw_iload_n dX7_lay_141 rfl ?_
        refine mw_iconst (v := 2) dX7_lay_142 (by decide) ?_
        refine mw_icmp_ne (tgt := 176) dX7_lay_143 (by decide) (fun h143 => ?_) (fun h143 => ?_)
        · skip
          refine mw_iload dX7_lay_176 rfl ?_
          exact mw_iret dX7_lay_178 rfl (by decide) (by decide) (by rw [hR]; exact ⟨rfl, rfl, rfl⟩)
        · skip
          exact absurd h143 cw
  have s61 : ∀ i, i < 5 → v = nI i → (0 ≤ w ∧ w ≤ 3) → (w = 1 → 0 ≤ y ∧ y ≤ nI n - 1) → (w = 2 → 0 ≤ y ∧ y ≤ 3) → ¬ (w = 2 ∧ mi (o + 14) y.toNatClampNeg < 0) → MW X fX7_lay (rmOf 2 0 0) 0 0 61 [some (rf X o), some (.int (nI i)), some (.int w), some (.int y), none, none] [] S mi (mQ X 0 0 (PE S (mLay mi o n v w y))) := by
    intro i hi hv g1 g2 g3 g4
    have gv : 0 ≤ v ∧ v ≤ 4 := by rw [hv]; exact ⟨nI_pos' (by omega), nI_le (b := 4) (by omega) (by decide)⟩
    have ev : v.toNatClampNeg = i := by rw [hv, nI_clamp (by omega)]
    have hk2 : w = 2 → ∃ b, b < 4 ∧ y = nI b := fun c => by
      obtain ⟨b, hb, hk⟩ := inB 3 (by decide) (g3 c)
      exact ⟨b, by omega, hk⟩
    have hk1 : w = 1 → ∃ a, a < 8 ∧ y = nI a := fun c => by
      obtain ⟨a, ha, hk⟩ := inAt (g2 c) hn8
      exact ⟨a, by omega, hk⟩
    have s130 : ∀ lb : Int32, lb = layB mi o w y → MW X fX7_lay (rmOf 2 0 0) 0 0 130 [some (rf X o), some (.int (nI i)), some (.int w), some (.int y), some (.int (mi (o + 17) i)), none] [.int lb, .int (nI i), rf X (o + 19)] S (m_up (m_up mi (o + 17) i w) (o + 18) i (layA mi o w y)) (mQ X 0 0 (PE S (mLay mi o n v w y))) := by
      rintro lb rfl
      refine mw_iastK (k := i) dX7_lay_130 (by assumption) (rfl) (by omega) (by decide) ?_
      refine mw_iconst (v := 0) dX7_lay_131 (by decide) ?_
      refine mw_istore dX7_lay_132 (by decide) ?_
      exact MW.sub (by simp [lsub, nI_0]) (s134 i hi (mi (o + 17) i) (by rw [mLay, if_pos ⟨gv, g1, g2, g3⟩, if_neg g4, ev]) hk2)
    have s110 : ∀ la : Int32, la = layA mi o w y → MW X fX7_lay (rmOf 2 0 0) 0 0 110 [some (rf X o), some (.int (nI i)), some (.int w), some (.int y), some (.int (mi (o + 17) i)), none] [.int la, .int (nI i), rf X (o + 18)] S (m_up mi (o + 17) i w) (mQ X 0 0 (PE S (mLay mi o n v w y))) := by
      rintro la rfl
      have e1 : ∀ u, m_up (m_up mi (o + 17) i w) (o + 18) i u (o + 1) = mi (o + 1) := fun u => by rw [m_up_ne (by omega), m_up_ne (by omega)]
      refine mw_iastK (k := i) dX7_lay_110 (by assumption) (rfl) (by omega) (by decide) ?_
      refine mw_aload_n dX7_lay_111 rfl ?_
      refine mw_getr dX7_lay_112 fl_X7_66 rfl (by assumption) (by assumption) ?_
      refine mw_iload_n dX7_lay_115 rfl ?_
      refine mw_iload_n dX7_lay_116 rfl ?_
      refine mw_iconst (v := 1) dX7_lay_117 (by decide) ?_
      refine mw_icmp_ne (tgt := 129) dX7_lay_118 (by decide) (fun h118 => ?_) (fun h118 => ?_)
      · skip
        refine mw_iconst (v := 0) dX7_lay_129 (by decide) ?_
        first
          | exact s130 _ (by rw [layB, if_pos h118, ek])
          | exact s130 _ (by rw [layB, if_neg h118])
          | fail "s130"
      · skip
        obtain ⟨a, ha, hk⟩ := hk1 h118
        have ek : y.toNatClampNeg = a := by rw [hk, nI_clamp (by omega)]
        refine mw_aload_n dX7_lay_121 rfl ?_
        refine mw_iload_n dX7_lay_122 rfl ?_
        rw [hk]
        refine mw_cVI (g := fX7_worthOf) dX7_lay_123 ml_X7_269 mfX7_worthOf (ok_X7_worthOf hM (a := a) ha) (by assumption) rfl rfl (Nat.le_of_ble_eq_true rfl) ⟨by decide, by decide⟩ ⟨by decide, by decide⟩ ?_
        rw [← hk, e1]
        refine mw_goto (tgt := 130) dX7_lay_126 (by decide) ?_
        first
          | exact s130 _ (by rw [layB, if_pos h118, ek])
          | exact s130 _ (by rw [layB, if_neg h118])
          | fail "s130"
    have e1 : m_up mi (o + 17) i w (o + 1) = mi (o + 1) := m_up_ne (by omega)
    have e15 : m_up mi (o + 17) i w (o + 15) = mi (o + 15) := m_up_ne (by omega)
    refine mw_aload_n dX7_lay_61 rfl ?_
    refine mw_getr dX7_lay_62 fl_X7_60 rfl (by assumption) (by assumption) ?_
    refine mw_iload_n dX7_lay_65 rfl ?_
    refine mw_ialdK (k := i) dX7_lay_66 (by assumption) (rfl) (by omega) (by decide) ?_
    refine mw_istore dX7_lay_67 (by decide) ?_
    refine mw_aload_n dX7_lay_69 rfl ?_
    refine mw_getr dX7_lay_70 fl_X7_60 rfl (by assumption) (by assumption) ?_
    refine mw_iload_n dX7_lay_73 rfl ?_
    refine mw_iload_n dX7_lay_74 rfl ?_
    refine mw_iastK (k := i) dX7_lay_75 (by assumption) (rfl) (by omega) (by decide) ?_
    refine mw_aload_n dX7_lay_76 rfl ?_
    refine mw_getr dX7_lay_77 fl_X7_63 rfl (by assumption) (by assumption) ?_
    refine mw_iload_n dX7_lay_80 rfl ?_
    refine mw_iload_n dX7_lay_81 rfl ?_
    refine mw_iconst (v := 1) dX7_lay_82 (by decide) ?_
    refine mw_icmp_ne (tgt := 95) dX7_lay_83 (by decide) (fun h83 => ?_) (fun h83 => ?_)
    · skip
      refine mw_iload_n dX7_lay_95 rfl ?_
      refine mw_iconst (v := 2) dX7_lay_96 (by decide) ?_
      refine mw_icmp_ne (tgt := 109) dX7_lay_97 (by decide) (fun h97 => ?_) (fun h97 => ?_)
      · skip
        refine mw_iload_n dX7_lay_109 rfl ?_
        first
          | exact s110 _ (by rw [layA, if_neg h83, if_pos h97, ek])
          | exact s110 _ (by rw [layA, if_neg h83, if_neg h97])
          | exact s110 _ (by rw [layA, if_pos h83, ek]; rfl)
          | fail "s110"
      · skip
        obtain ⟨b, hb, hk⟩ := hk2 h97
        have ek : y.toNatClampNeg = b := by rw [hk, nI_clamp (by omega)]
        refine mw_aload_n dX7_lay_100 rfl ?_
        refine mw_getr dX7_lay_101 fl_X7_54 rfl (by assumption) (by assumption) ?_
        refine mw_iload_n dX7_lay_104 rfl ?_
        refine mw_ialdK (k := b) dX7_lay_105 (by assumption) (hk) (by omega) (by decide) ?_
        rw [e15]
        refine mw_goto (tgt := 110) dX7_lay_106 (by decide) ?_
        first
          | exact s110 _ (by rw [layA, if_neg h83, if_pos h97, ek])
          | exact s110 _ (by rw [layA, if_neg h83, if_neg h97])
          | exact s110 _ (by rw [layA, if_pos h83, ek]; rfl)
          | fail "s110"
    · skip
      obtain ⟨a, ha, hk⟩ := hk1 h83
      have ek : y.toNatClampNeg = a := by rw [hk, nI_clamp (by omega)]
      refine mw_aload_n dX7_lay_86 rfl ?_
      refine mw_iload_n dX7_lay_87 rfl ?_
      refine mw_iconst (v := 0) dX7_lay_88 (by decide) ?_
      rw [hk]
      refine mw_cVI (g := fX7_of) dX7_lay_89 ml_X7_86 mfX7_of (ok_X7_of hM (a := a) (w := 0) ha (by decide)) (by assumption) rfl rfl (Nat.le_of_ble_eq_true rfl) ⟨by decide, by decide⟩ ⟨by decide, by decide⟩ ?_
      rw [← hk, e1]
      refine mw_goto (tgt := 110) dX7_lay_92 (by decide) ?_
      first
        | exact s110 _ (by rw [layA, if_neg h83, if_pos h97, ek])
        | exact s110 _ (by rw [layA, if_neg h83, if_neg h97])
        | exact s110 _ (by rw [layA, if_pos h83, ek]; rfl)
        | fail "s110"
  refine mw_iload_n dX7_lay_0 rfl ?_
  refine mw_cSI (g := fX7_isSlot) dX7_lay_1 ml_X7_266 mfX7_isSlot (ok_X7_isSlot) rfl rfl (Nat.le_of_ble_eq_true rfl) ⟨by decide, by decide⟩ ⟨by decide, by decide⟩ ?_
  refine mw_if_eqB (tgt := 41) dX7_lay_4 (by decide) (fun h4 => ?_) (fun h4 => ?_)
  · skip
    refine mw_ldc dX7_lay_41 cn_X7_127 ?_
    exact mw_iret dX7_lay_43 rfl (by decide) (by decide) (by rw [mLay, if_neg (by grind)]; exact ⟨rfl, rfl, rfl⟩)
  · skip
    refine mw_iload_n dX7_lay_7 rfl ?_
    refine mw_iconst (v := 0) dX7_lay_8 (by decide) ?_
    refine mw_iconst (v := 3) dX7_lay_9 (by decide) ?_
    refine mw_cSI (g := fX7_in) dX7_lay_10 ml_X7_78 mfX7_in (ok_X7_in) rfl rfl (Nat.le_of_ble_eq_true rfl) ⟨by decide, by decide⟩ ⟨by decide, by decide⟩ ?_
    refine mw_if_eqB (tgt := 41) dX7_lay_13 (by decide) (fun h13 => ?_) (fun h13 => ?_)
    · skip
      refine mw_ldc dX7_lay_41 cn_X7_127 ?_
      exact mw_iret dX7_lay_43 rfl (by decide) (by decide) (by rw [mLay, if_neg (by grind)]; exact ⟨rfl, rfl, rfl⟩)
    · skip
      refine mw_iload_n dX7_lay_16 rfl ?_
      refine mw_iconst (v := 1) dX7_lay_17 (by decide) ?_
      refine mw_icmp_ne (tgt := 29) dX7_lay_18 (by decide) (fun h18 => ?_) (fun h18 => ?_)
      · skip
        refine mw_iload_n dX7_lay_29 rfl ?_
        refine mw_iconst (v := 2) dX7_lay_30 (by decide) ?_
        refine mw_icmp_ne (tgt := 44) dX7_lay_31 (by decide) (fun h31 => ?_) (fun h31 => ?_)
        · skip
          refine mw_iload_n dX7_lay_44 rfl ?_
          refine mw_iconst (v := 2) dX7_lay_45 (by decide) ?_
          refine mw_icmp_ne (tgt := 61) dX7_lay_46 (by decide) (fun h46 => ?_) (fun h46 => ?_)
          · skip
            have g55 : ¬ (w = 2 ∧ mi (o + 14) y.toNatClampNeg < 0) := (by first | exact fun q => h46 q.1 | exact fun q => absurd h55 (Int32.not_le.mpr q.2))
            obtain ⟨i, hi, hv⟩ := inB 4 (by decide) h4
            have gg := s61 i (by omega) hv h13 (by grind) (by grind) (by grind)
            rw [← hv] at gg
            exact MW.sub (by simp [lsub]) gg
          · skip
            have g38 : 0 ≤ y ∧ y ≤ 3 := by grind
            obtain ⟨b, hb, hk⟩ := inB 3 (by decide) g38
            have ek : y.toNatClampNeg = b := by rw [hk, nI_clamp (by omega)]
            refine mw_aload_n dX7_lay_49 rfl ?_
            refine mw_getr dX7_lay_50 fl_X7_51 rfl (by assumption) (by assumption) ?_
            refine mw_iload_n dX7_lay_53 rfl ?_
            refine mw_ialdK (k := b) dX7_lay_54 (by assumption) (hk) (by omega) (by decide) ?_
            rw [← ek]
            refine mw_if_ge (tgt := 61) dX7_lay_55 (by decide) (fun h55 => ?_) (fun h55 => ?_)
            · skip
              have g55 : ¬ (w = 2 ∧ mi (o + 14) y.toNatClampNeg < 0) := (by first | exact fun q => h46 q.1 | exact fun q => absurd h55 (Int32.not_le.mpr q.2))
              obtain ⟨i, hi, hv⟩ := inB 4 (by decide) h4
              have gg := s61 i (by omega) hv h13 (by grind) (by grind) (by grind)
              rw [← hv] at gg
              exact MW.sub (by simp [lsub]) gg
            · skip
              refine mw_ldc dX7_lay_58 cn_X7_190 ?_
              exact mw_iret dX7_lay_60 rfl (by decide) (by decide) (by rw [mLay, if_pos (by grind), if_pos ⟨h46, Int32.not_le.mp h55⟩]; exact ⟨rfl, rfl, rfl⟩)
        · skip
          refine mw_iload_n dX7_lay_34 rfl ?_
          refine mw_cSI (g := fX7_isSheet) dX7_lay_35 ml_X7_187 mfX7_isSheet (ok_X7_isSheet) rfl rfl (Nat.le_of_ble_eq_true rfl) ⟨by decide, by decide⟩ ⟨by decide, by decide⟩ ?_
          refine mw_if_neB (tgt := 44) dX7_lay_38 (by decide) (fun h38 => ?_) (fun h38 => ?_)
          · skip
            refine mw_iload_n dX7_lay_44 rfl ?_
            refine mw_iconst (v := 2) dX7_lay_45 (by decide) ?_
            refine mw_icmp_ne (tgt := 61) dX7_lay_46 (by decide) (fun h46 => ?_) (fun h46 => ?_)
            · skip
              have g55 : ¬ (w = 2 ∧ mi (o + 14) y.toNatClampNeg < 0) := (by first | exact fun q => h46 q.1 | exact fun q => absurd h55 (Int32.not_le.mpr q.2))
              obtain ⟨i, hi, hv⟩ := inB 4 (by decide) h4
              have gg := s61 i (by omega) hv h13 (by grind) (by grind) (by grind)
              rw [← hv] at gg
              exact MW.sub (by simp [lsub]) gg
            · skip
              have g38 : 0 ≤ y ∧ y ≤ 3 := by grind
              obtain ⟨b, hb, hk⟩ := inB 3 (by decide) g38
              have ek : y.toNatClampNeg = b := by rw [hk, nI_clamp (by omega)]
              refine mw_aload_n dX7_lay_49 rfl ?_
              refine mw_getr dX7_lay_50 fl_X7_51 rfl (by assumption) (by assumption) ?_
              refine mw_iload_n dX7_lay_53 rfl ?_
              refine mw_ialdK (k := b) dX7_lay_54 (by assumption) (hk) (by omega) (by decide) ?_
              rw [← ek]
              refine mw_if_ge (tgt := 61) dX7_lay_55 (by decide) (fun h55 => ?_) (fun h55 => ?_)
              · skip
                have g55 : ¬ (w = 2 ∧ mi (o + 14) y.toNatClampNeg < 0) := (by first | exact fun q => h46 q.1 | exact fun q => absurd h55 (Int32.not_le.mpr q.2))
                obtain ⟨i, hi, hv⟩ := inB 4 (by decide) h4
                have gg := s61 i (by omega) hv h13 (by grind) (by grind) (by grind)
                rw [← hv] at gg
                exact MW.sub (by simp [lsub]) gg
              · skip
                refine mw_ldc dX7_lay_58 cn_X7_190 ?_
                exact mw_iret dX7_lay_60 rfl (by decide) (by decide) (by rw [mLay, if_pos (by grind), if_pos ⟨h46, Int32.not_le.mp h55⟩]; exact ⟨rfl, rfl, rfl⟩)
          · skip
            refine mw_ldc dX7_lay_41 cn_X7_127 ?_
            exact mw_iret dX7_lay_43 rfl (by decide) (by decide) (by rw [mLay, if_neg (by grind)]; exact ⟨rfl, rfl, rfl⟩)
      · skip
        refine mw_aload_n dX7_lay_21 rfl ?_
        refine mw_iload_n dX7_lay_22 rfl ?_
        refine mw_cVI (g := fX7_isAttic) dX7_lay_23 ml_X7_132 mfX7_isAttic (ok_X7_isAttic hM) (by assumption) rfl rfl (Nat.le_of_ble_eq_true rfl) ⟨by decide, by decide⟩ ⟨by decide, by decide⟩ ?_
        rw [hn]
        refine mw_if_eqB (tgt := 41) dX7_lay_26 (by decide) (fun h26 => ?_) (fun h26 => ?_)
        · skip
          refine mw_ldc dX7_lay_41 cn_X7_127 ?_
          exact mw_iret dX7_lay_43 rfl (by decide) (by decide) (by rw [mLay, if_neg (by grind)]; exact ⟨rfl, rfl, rfl⟩)
        · skip
          refine mw_iload_n dX7_lay_29 rfl ?_
          refine mw_iconst (v := 2) dX7_lay_30 (by decide) ?_
          refine mw_icmp_ne (tgt := 44) dX7_lay_31 (by decide) (fun h31 => ?_) (fun h31 => ?_)
          · skip
            refine mw_iload_n dX7_lay_44 rfl ?_
            refine mw_iconst (v := 2) dX7_lay_45 (by decide) ?_
            refine mw_icmp_ne (tgt := 61) dX7_lay_46 (by decide) (fun h46 => ?_) (fun h46 => ?_)
            · skip
              have g55 : ¬ (w = 2 ∧ mi (o + 14) y.toNatClampNeg < 0) := (by first | exact fun q => h46 q.1 | exact fun q => absurd h55 (Int32.not_le.mpr q.2))
              obtain ⟨i, hi, hv⟩ := inB 4 (by decide) h4
              have gg := s61 i (by omega) hv h13 (by grind) (by grind) (by grind)
              rw [← hv] at gg
              exact MW.sub (by simp [lsub]) gg
            · skip
              have g38 : 0 ≤ y ∧ y ≤ 3 := by grind
              obtain ⟨b, hb, hk⟩ := inB 3 (by decide) g38
              have ek : y.toNatClampNeg = b := by rw [hk, nI_clamp (by omega)]
              refine mw_aload_n dX7_lay_49 rfl ?_
              refine mw_getr dX7_lay_50 fl_X7_51 rfl (by assumption) (by assumption) ?_
              refine mw_iload_n dX7_lay_53 rfl ?_
              refine mw_ialdK (k := b) dX7_lay_54 (by assumption) (hk) (by omega) (by decide) ?_
              rw [← ek]
              refine mw_if_ge (tgt := 61) dX7_lay_55 (by decide) (fun h55 => ?_) (fun h55 => ?_)
              · skip
                have g55 : ¬ (w = 2 ∧ mi (o + 14) y.toNatClampNeg < 0) := (by first | exact fun q => h46 q.1 | exact fun q => absurd h55 (Int32.not_le.mpr q.2))
                obtain ⟨i, hi, hv⟩ := inB 4 (by decide) h4
                have gg := s61 i (by omega) hv h13 (by grind) (by grind) (by grind)
                rw [← hv] at gg
                exact MW.sub (by simp [lsub]) gg
              · skip
                refine mw_ldc dX7_lay_58 cn_X7_190 ?_
                exact mw_iret dX7_lay_60 rfl (by decide) (by decide) (by rw [mLay, if_pos (by grind), if_pos ⟨h46, Int32.not_le.mp h55⟩]; exact ⟨rfl, rfl, rfl⟩)
          · skip
            refine mw_iload_n dX7_lay_34 rfl ?_
            refine mw_cSI (g := fX7_isSheet) dX7_lay_35 ml_X7_187 mfX7_isSheet (ok_X7_isSheet) rfl rfl (Nat.le_of_ble_eq_true rfl) ⟨by decide, by decide⟩ ⟨by decide, by decide⟩ ?_
            refine mw_if_neB (tgt := 44) dX7_lay_38 (by decide) (fun h38 => ?_) (fun h38 => ?_)
            · skip
              refine mw_iload_n dX7_lay_44 rfl ?_
              refine mw_iconst (v := 2) dX7_lay_45 (by decide) ?_
              refine mw_icmp_ne (tgt := 61) dX7_lay_46 (by decide) (fun h46 => ?_) (fun h46 => ?_)
              · skip
                have g55 : ¬ (w = 2 ∧ mi (o + 14) y.toNatClampNeg < 0) := (by first | exact fun q => h46 q.1 | exact fun q => absurd h55 (Int32.not_le.mpr q.2))
                obtain ⟨i, hi, hv⟩ := inB 4 (by decide) h4
                have gg := s61 i (by omega) hv h13 (by grind) (by grind) (by grind)
                rw [← hv] at gg
                exact MW.sub (by simp [lsub]) gg
              · skip
                have g38 : 0 ≤ y ∧ y ≤ 3 := by grind
                obtain ⟨b, hb, hk⟩ := inB 3 (by decide) g38
                have ek : y.toNatClampNeg = b := by rw [hk, nI_clamp (by omega)]
                refine mw_aload_n dX7_lay_49 rfl ?_
                refine mw_getr dX7_lay_50 fl_X7_51 rfl (by assumption) (by assumption) ?_
                refine mw_iload_n dX7_lay_53 rfl ?_
                refine mw_ialdK (k := b) dX7_lay_54 (by assumption) (hk) (by omega) (by decide) ?_
                rw [← ek]
                refine mw_if_ge (tgt := 61) dX7_lay_55 (by decide) (fun h55 => ?_) (fun h55 => ?_)
                · skip
                  have g55 : ¬ (w = 2 ∧ mi (o + 14) y.toNatClampNeg < 0) := (by first | exact fun q => h46 q.1 | exact fun q => absurd h55 (Int32.not_le.mpr q.2))
                  obtain ⟨i, hi, hv⟩ := inB 4 (by decide) h4
                  have gg := s61 i (by omega) hv h13 (by grind) (by grind) (by grind)
                  rw [← hv] at gg
                  exact MW.sub (by simp [lsub]) gg
                · skip
                  refine mw_ldc dX7_lay_58 cn_X7_190 ?_
                  exact mw_iret dX7_lay_60 rfl (by decide) (by decide) (by rw [mLay, if_pos (by grind), if_pos ⟨h46, Int32.not_le.mp h55⟩]; exact ⟨rfl, rfl, rfl⟩)
            · skip
              refine mw_ldc dX7_lay_41 cn_X7_127 ?_
              exact mw_iret dX7_lay_43 rfl (by decide) (by decide) (by rw [mLay, if_neg (by grind)]; exact ⟨rfl, rfl, rfl⟩)
def mAsk (mi : Mem) (o : Nat) (v k : Int32) : Int32 := if (0 ≤ v ∧ v ≤ 4) ∧ (0 ≤ k ∧ k ≤ 5) then (if mi (o + 17) v.toNatClampNeg = 0 then NOTHINGi else if mi (o + 17) v.toNatClampNeg = 1 ∧ isoB (mi (o + 18) v.toNatClampNeg) k = true then mWide (mi (o + 1) 2) (mi (o + 18) v.toNatClampNeg) (mi (o + 19) v.toNatClampNeg) else KINDi) else BADi
theorem dX7_ask_0 : decode fX7_ask.2.1 0 = .ok (.iload_n 1, 1) := by decide +kernel
theorem dX7_ask_1 : decode fX7_ask.2.1 1 = .ok (.invokestatic 266, 3) := by decide +kernel
theorem dX7_ask_4 : decode fX7_ask.2.1 4 = .ok (.ifCond .eq 12, 3) := by decide +kernel
theorem dX7_ask_7 : decode fX7_ask.2.1 7 = .ok (.iload_n 2, 1) := by decide +kernel
theorem dX7_ask_8 : decode fX7_ask.2.1 8 = .ok (.iconst 0, 1) := by decide +kernel
theorem dX7_ask_9 : decode fX7_ask.2.1 9 = .ok (.iconst 5, 1) := by decide +kernel
theorem dX7_ask_10 : decode fX7_ask.2.1 10 = .ok (.invokestatic 78, 3) := by decide +kernel
theorem dX7_ask_13 : decode fX7_ask.2.1 13 = .ok (.ifCond .ne 6, 3) := by decide +kernel
theorem dX7_ask_16 : decode fX7_ask.2.1 16 = .ok (.ldc 127, 2) := by decide +kernel
theorem dX7_ask_18 : decode fX7_ask.2.1 18 = .ok (.ireturn, 1) := by decide +kernel
theorem dX7_ask_19 : decode fX7_ask.2.1 19 = .ok (.aload_n 0, 1) := by decide +kernel
theorem dX7_ask_20 : decode fX7_ask.2.1 20 = .ok (.getfield 60, 3) := by decide +kernel
theorem dX7_ask_23 : decode fX7_ask.2.1 23 = .ok (.iload_n 1, 1) := by decide +kernel
theorem dX7_ask_24 : decode fX7_ask.2.1 24 = .ok (.iaload, 1) := by decide +kernel
theorem dX7_ask_25 : decode fX7_ask.2.1 25 = .ok (.ifCond .ne 6, 3) := by decide +kernel
theorem dX7_ask_28 : decode fX7_ask.2.1 28 = .ok (.ldc 190, 2) := by decide +kernel
theorem dX7_ask_30 : decode fX7_ask.2.1 30 = .ok (.ireturn, 1) := by decide +kernel
theorem dX7_ask_31 : decode fX7_ask.2.1 31 = .ok (.aload_n 0, 1) := by decide +kernel
theorem dX7_ask_32 : decode fX7_ask.2.1 32 = .ok (.getfield 60, 3) := by decide +kernel
theorem dX7_ask_35 : decode fX7_ask.2.1 35 = .ok (.iload_n 1, 1) := by decide +kernel
theorem dX7_ask_36 : decode fX7_ask.2.1 36 = .ok (.iaload, 1) := by decide +kernel
theorem dX7_ask_37 : decode fX7_ask.2.1 37 = .ok (.iconst 1, 1) := by decide +kernel
theorem dX7_ask_38 : decode fX7_ask.2.1 38 = .ok (.if_icmp .ne 35, 3) := by decide +kernel
theorem dX7_ask_41 : decode fX7_ask.2.1 41 = .ok (.aload_n 0, 1) := by decide +kernel
theorem dX7_ask_42 : decode fX7_ask.2.1 42 = .ok (.getfield 63, 3) := by decide +kernel
theorem dX7_ask_45 : decode fX7_ask.2.1 45 = .ok (.iload_n 1, 1) := by decide +kernel
theorem dX7_ask_46 : decode fX7_ask.2.1 46 = .ok (.iaload, 1) := by decide +kernel
theorem dX7_ask_47 : decode fX7_ask.2.1 47 = .ok (.iload_n 2, 1) := by decide +kernel
theorem dX7_ask_48 : decode fX7_ask.2.1 48 = .ok (.invokestatic 138, 3) := by decide +kernel
theorem dX7_ask_51 : decode fX7_ask.2.1 51 = .ok (.ifCond .eq 22, 3) := by decide +kernel
theorem dX7_ask_54 : decode fX7_ask.2.1 54 = .ok (.aload_n 0, 1) := by decide +kernel
theorem dX7_ask_55 : decode fX7_ask.2.1 55 = .ok (.aload_n 0, 1) := by decide +kernel
theorem dX7_ask_56 : decode fX7_ask.2.1 56 = .ok (.getfield 63, 3) := by decide +kernel
theorem dX7_ask_59 : decode fX7_ask.2.1 59 = .ok (.iload_n 1, 1) := by decide +kernel
theorem dX7_ask_60 : decode fX7_ask.2.1 60 = .ok (.iaload, 1) := by decide +kernel
theorem dX7_ask_61 : decode fX7_ask.2.1 61 = .ok (.aload_n 0, 1) := by decide +kernel
theorem dX7_ask_62 : decode fX7_ask.2.1 62 = .ok (.getfield 66, 3) := by decide +kernel
theorem dX7_ask_65 : decode fX7_ask.2.1 65 = .ok (.iload_n 1, 1) := by decide +kernel
theorem dX7_ask_66 : decode fX7_ask.2.1 66 = .ok (.iaload, 1) := by decide +kernel
theorem dX7_ask_67 : decode fX7_ask.2.1 67 = .ok (.invokevirtual 90, 3) := by decide +kernel
theorem dX7_ask_70 : decode fX7_ask.2.1 70 = .ok (.goto 5, 3) := by decide +kernel
theorem dX7_ask_73 : decode fX7_ask.2.1 73 = .ok (.ldc 141, 2) := by decide +kernel
theorem dX7_ask_75 : decode fX7_ask.2.1 75 = .ok (.ireturn, 1) := by decide +kernel
set_option maxRecDepth 100000 in
set_option maxHeartbeats 4000000 in
theorem ok_X7_ask {X : Xb} {S : Sg} {mi : Mem} {o : Nat} {v k : Int32} (hM : MdA S o) : Ok 2 0 0 fX7_ask X [rf X o, .int v, .int k] S mi (PE S (mAsk mi o v k, mi)) := by
  refine Ok.go [some (rf X o), some (.int v), some (.int k)] (by decide) (by simp [Value.category]) (Nat.le_of_ble_eq_true rfl) rfl ?_
  obtain ⟨k_o, ⟨r_o_now, k_o_now⟩, ⟨r_o_image, k_o_image⟩, ⟨r_o_aside, k_o_aside⟩, ⟨r_o_seen, k_o_seen⟩, ⟨r_o_unlike, k_o_unlike⟩, ⟨r_o_tape, k_o_tape⟩, ⟨r_o_keys, k_o_keys⟩, ⟨r_o_keyAt, k_o_keyAt⟩, ⟨r_o_code, k_o_code⟩, ⟨r_o_waits, k_o_waits⟩, ⟨r_o_tested, k_o_tested⟩, ⟨r_o_stack, k_o_stack⟩, ⟨r_o_facts, k_o_facts⟩, ⟨r_o_sorts, k_o_sorts⟩, ⟨r_o_sizes, k_o_sizes⟩, ⟨r_o_cells, k_o_cells⟩, ⟨r_o_holds, k_o_holds⟩, ⟨r_o_holdsA, k_o_holdsA⟩, ⟨r_o_holdsB, k_o_holdsB⟩, ⟨r_o_heldCells, k_o_heldCells⟩, ⟨r_o_moved, k_o_moved⟩, ⟨r_o_tells, k_o_tells⟩⟩ := id hM
  refine mw_iload_n dX7_ask_0 rfl ?_
  refine mw_cSI (g := fX7_isSlot) dX7_ask_1 ml_X7_266 mfX7_isSlot (ok_X7_isSlot) rfl rfl (Nat.le_of_ble_eq_true rfl) ⟨by decide, by decide⟩ ⟨by decide, by decide⟩ ?_
  refine mw_if_eqB (tgt := 16) dX7_ask_4 (by decide) (fun h4 => ?_) (fun h4 => ?_)
  · skip
    refine mw_ldc dX7_ask_16 cn_X7_127 ?_
    exact mw_iret dX7_ask_18 rfl (by decide) (by decide) (by rw [mAsk, if_neg (by grind)]; exact ⟨rfl, rfl, rfl⟩)
  · skip
    refine mw_iload_n dX7_ask_7 rfl ?_
    refine mw_iconst (v := 0) dX7_ask_8 (by decide) ?_
    refine mw_iconst (v := 5) dX7_ask_9 (by decide) ?_
    refine mw_cSI (g := fX7_in) dX7_ask_10 ml_X7_78 mfX7_in (ok_X7_in) rfl rfl (Nat.le_of_ble_eq_true rfl) ⟨by decide, by decide⟩ ⟨by decide, by decide⟩ ?_
    refine mw_if_neB (tgt := 19) dX7_ask_13 (by decide) (fun h13 => ?_) (fun h13 => ?_)
    · skip
      obtain ⟨i, hi, rfl⟩ := inB 4 (by decide) h4
      have ev : (nI i).toNatClampNeg = i := nI_clamp (by omega)
      refine mw_aload_n dX7_ask_19 rfl ?_
      refine mw_getr dX7_ask_20 fl_X7_60 rfl (by assumption) (by assumption) ?_
      refine mw_iload_n dX7_ask_23 rfl ?_
      refine mw_ialdK (k := i) dX7_ask_24 (by assumption) (rfl) (by omega) (by decide) ?_
      refine mw_if_ne (tgt := 31) dX7_ask_25 (by decide) (fun h25 => ?_) (fun h25 => ?_)
      · skip
        refine mw_aload_n dX7_ask_31 rfl ?_
        refine mw_getr dX7_ask_32 fl_X7_60 rfl (by assumption) (by assumption) ?_
        refine mw_iload_n dX7_ask_35 rfl ?_
        refine mw_ialdK (k := i) dX7_ask_36 (by assumption) (rfl) (by omega) (by decide) ?_
        refine mw_iconst (v := 1) dX7_ask_37 (by decide) ?_
        refine mw_icmp_ne (tgt := 73) dX7_ask_38 (by decide) (fun h38 => ?_) (fun h38 => ?_)
        · skip
          refine mw_ldc dX7_ask_73 cn_X7_141 ?_
          exact mw_iret dX7_ask_75 rfl (by decide) (by decide) (by first | (have q := h51; rw [mAsk, if_pos ⟨h4, h13⟩, ev, if_neg h25, if_pos (And.intro h38 q)]; exact ⟨rfl, rfl, rfl⟩) | (have q := h51; rw [mAsk, if_pos ⟨h4, h13⟩, ev, if_neg h25, if_neg (fun g => q g.2)]; exact ⟨rfl, rfl, rfl⟩) | (rw [mAsk, if_pos ⟨h4, h13⟩, ev, if_neg h25, if_neg (fun g => h38 g.1)]; exact ⟨rfl, rfl, rfl⟩) | fail "leaf")
        · skip
          refine mw_aload_n dX7_ask_41 rfl ?_
          refine mw_getr dX7_ask_42 fl_X7_63 rfl (by assumption) (by assumption) ?_
          refine mw_iload_n dX7_ask_45 rfl ?_
          refine mw_ialdK (k := i) dX7_ask_46 (by assumption) (rfl) (by omega) (by decide) ?_
          refine mw_iload_n dX7_ask_47 rfl ?_
          refine mw_cSI (g := fX7_isUnder) dX7_ask_48 ml_X7_138 mfX7_isUnder (ok_X7_isUnder) rfl rfl (Nat.le_of_ble_eq_true rfl) ⟨by decide, by decide⟩ ⟨by decide, by decide⟩ ?_
          refine mw_if_eqB (tgt := 73) dX7_ask_51 (by decide) (fun h51 => ?_) (fun h51 => ?_)
          · skip
            refine mw_ldc dX7_ask_73 cn_X7_141 ?_
            exact mw_iret dX7_ask_75 rfl (by decide) (by decide) (by first | (have q := h51; rw [mAsk, if_pos ⟨h4, h13⟩, ev, if_neg h25, if_pos (And.intro h38 q)]; exact ⟨rfl, rfl, rfl⟩) | (have q := h51; rw [mAsk, if_pos ⟨h4, h13⟩, ev, if_neg h25, if_neg (fun g => q g.2)]; exact ⟨rfl, rfl, rfl⟩) | (rw [mAsk, if_pos ⟨h4, h13⟩, ev, if_neg h25, if_neg (fun g => h38 g.1)]; exact ⟨rfl, rfl, rfl⟩) | fail "leaf")
          · skip
            refine mw_aload_n dX7_ask_54 rfl ?_
            refine mw_aload_n dX7_ask_55 rfl ?_
            refine mw_getr dX7_ask_56 fl_X7_63 rfl (by assumption) (by assumption) ?_
            refine mw_iload_n dX7_ask_59 rfl ?_
            refine mw_ialdK (k := i) dX7_ask_60 (by assumption) (rfl) (by omega) (by decide) ?_
            refine mw_aload_n dX7_ask_61 rfl ?_
            refine mw_getr dX7_ask_62 fl_X7_66 rfl (by assumption) (by assumption) ?_
            refine mw_iload_n dX7_ask_65 rfl ?_
            refine mw_ialdK (k := i) dX7_ask_66 (by assumption) (rfl) (by omega) (by decide) ?_
            refine mw_cVI (g := fX7_wideBy) dX7_ask_67 ml_X7_90 mfX7_wideBy (ok_X7_wideBy hM) (by assumption) rfl rfl (Nat.le_of_ble_eq_true rfl) ⟨by decide, by decide⟩ ⟨by decide, by decide⟩ ?_
            refine mw_goto (tgt := 75) dX7_ask_70 (by decide) ?_
            exact mw_iret dX7_ask_75 rfl (by decide) (by decide) (by first | (have q := h51; rw [mAsk, if_pos ⟨h4, h13⟩, ev, if_neg h25, if_pos (And.intro h38 q)]; exact ⟨rfl, rfl, rfl⟩) | (have q := h51; rw [mAsk, if_pos ⟨h4, h13⟩, ev, if_neg h25, if_neg (fun g => q g.2)]; exact ⟨rfl, rfl, rfl⟩) | (rw [mAsk, if_pos ⟨h4, h13⟩, ev, if_neg h25, if_neg (fun g => h38 g.1)]; exact ⟨rfl, rfl, rfl⟩) | fail "leaf")
      · skip
        refine mw_ldc dX7_ask_28 cn_X7_190 ?_
        exact mw_iret dX7_ask_30 rfl (by decide) (by decide) (by rw [mAsk, if_pos ⟨h4, h13⟩, ev, if_pos h25]; exact ⟨rfl, rfl, rfl⟩)
    · skip
      refine mw_ldc dX7_ask_16 cn_X7_127 ?_
      exact mw_iret dX7_ask_18 rfl (by decide) (by decide) (by rw [mAsk, if_neg (by grind)]; exact ⟨rfl, rfl, rfl⟩)
/-- a sheet in a slot of the model has up to 24 places -/
def MlZ (mi : Mem) (o : Nat) : Prop := ∀ i, i < 5 → mi (o + 17) i = 2 → ∃ z, z ≤ 24 ∧ mi (o + 18) i = nI z
def mItem (mi : Mem) (o : Nat) (v p : Int32) : Int32 := if 0 ≤ v ∧ v ≤ 4 then (if mi (o + 17) v.toNatClampNeg = 0 then NOTHINGi else if ¬ mi (o + 17) v.toNatClampNeg = 2 then KINDi else if ¬ (0 ≤ p ∧ p ≤ mi (o + 18) v.toNatClampNeg - 1) then INDEXi else if mi (o + 20) (24 * v.toNatClampNeg + p.toNatClampNeg) = NONEi then KINDi else mi (o + 20) (24 * v.toNatClampNeg + p.toNatClampNeg)) else BADi
theorem dX7_item_0 : decode fX7_item.2.1 0 = .ok (.iload_n 1, 1) := by decide +kernel
theorem dX7_item_1 : decode fX7_item.2.1 1 = .ok (.invokestatic 266, 3) := by decide +kernel
theorem dX7_item_4 : decode fX7_item.2.1 4 = .ok (.ifCond .ne 6, 3) := by decide +kernel
theorem dX7_item_7 : decode fX7_item.2.1 7 = .ok (.ldc 127, 2) := by decide +kernel
theorem dX7_item_9 : decode fX7_item.2.1 9 = .ok (.ireturn, 1) := by decide +kernel
theorem dX7_item_10 : decode fX7_item.2.1 10 = .ok (.aload_n 0, 1) := by decide +kernel
theorem dX7_item_11 : decode fX7_item.2.1 11 = .ok (.getfield 60, 3) := by decide +kernel
theorem dX7_item_14 : decode fX7_item.2.1 14 = .ok (.iload_n 1, 1) := by decide +kernel
theorem dX7_item_15 : decode fX7_item.2.1 15 = .ok (.iaload, 1) := by decide +kernel
theorem dX7_item_16 : decode fX7_item.2.1 16 = .ok (.ifCond .ne 6, 3) := by decide +kernel
theorem dX7_item_19 : decode fX7_item.2.1 19 = .ok (.ldc 190, 2) := by decide +kernel
theorem dX7_item_21 : decode fX7_item.2.1 21 = .ok (.ireturn, 1) := by decide +kernel
theorem dX7_item_22 : decode fX7_item.2.1 22 = .ok (.aload_n 0, 1) := by decide +kernel
theorem dX7_item_23 : decode fX7_item.2.1 23 = .ok (.getfield 60, 3) := by decide +kernel
theorem dX7_item_26 : decode fX7_item.2.1 26 = .ok (.iload_n 1, 1) := by decide +kernel
theorem dX7_item_27 : decode fX7_item.2.1 27 = .ok (.iaload, 1) := by decide +kernel
theorem dX7_item_28 : decode fX7_item.2.1 28 = .ok (.iconst 2, 1) := by decide +kernel
theorem dX7_item_29 : decode fX7_item.2.1 29 = .ok (.if_icmp .eq 6, 3) := by decide +kernel
theorem dX7_item_32 : decode fX7_item.2.1 32 = .ok (.ldc 141, 2) := by decide +kernel
theorem dX7_item_34 : decode fX7_item.2.1 34 = .ok (.ireturn, 1) := by decide +kernel
theorem dX7_item_35 : decode fX7_item.2.1 35 = .ok (.iload_n 2, 1) := by decide +kernel
theorem dX7_item_36 : decode fX7_item.2.1 36 = .ok (.iconst 0, 1) := by decide +kernel
theorem dX7_item_37 : decode fX7_item.2.1 37 = .ok (.aload_n 0, 1) := by decide +kernel
theorem dX7_item_38 : decode fX7_item.2.1 38 = .ok (.getfield 63, 3) := by decide +kernel
theorem dX7_item_41 : decode fX7_item.2.1 41 = .ok (.iload_n 1, 1) := by decide +kernel
theorem dX7_item_42 : decode fX7_item.2.1 42 = .ok (.iaload, 1) := by decide +kernel
theorem dX7_item_43 : decode fX7_item.2.1 43 = .ok (.iconst 1, 1) := by decide +kernel
theorem dX7_item_44 : decode fX7_item.2.1 44 = .ok (.isub, 1) := by decide +kernel
theorem dX7_item_45 : decode fX7_item.2.1 45 = .ok (.invokestatic 78, 3) := by decide +kernel
theorem dX7_item_48 : decode fX7_item.2.1 48 = .ok (.ifCond .ne 7, 3) := by decide +kernel
theorem dX7_item_51 : decode fX7_item.2.1 51 = .ok (.ldc_w 263, 3) := by decide +kernel
theorem dX7_item_54 : decode fX7_item.2.1 54 = .ok (.ireturn, 1) := by decide +kernel
theorem dX7_item_55 : decode fX7_item.2.1 55 = .ok (.aload_n 0, 1) := by decide +kernel
theorem dX7_item_56 : decode fX7_item.2.1 56 = .ok (.getfield 69, 3) := by decide +kernel
theorem dX7_item_59 : decode fX7_item.2.1 59 = .ok (.bipush 24, 2) := by decide +kernel
theorem dX7_item_61 : decode fX7_item.2.1 61 = .ok (.iload_n 1, 1) := by decide +kernel
theorem dX7_item_62 : decode fX7_item.2.1 62 = .ok (.imul, 1) := by decide +kernel
theorem dX7_item_63 : decode fX7_item.2.1 63 = .ok (.iload_n 2, 1) := by decide +kernel
theorem dX7_item_64 : decode fX7_item.2.1 64 = .ok (.iadd, 1) := by decide +kernel
theorem dX7_item_65 : decode fX7_item.2.1 65 = .ok (.iaload, 1) := by decide +kernel
theorem dX7_item_66 : decode fX7_item.2.1 66 = .ok (.istore_n 3, 1) := by decide +kernel
theorem dX7_item_67 : decode fX7_item.2.1 67 = .ok (.iload_n 3, 1) := by decide +kernel
theorem dX7_item_68 : decode fX7_item.2.1 68 = .ok (.ldc 172, 2) := by decide +kernel
theorem dX7_item_70 : decode fX7_item.2.1 70 = .ok (.if_icmp .ne 8, 3) := by decide +kernel
theorem dX7_item_73 : decode fX7_item.2.1 73 = .ok (.ldc 141, 2) := by decide +kernel
theorem dX7_item_75 : decode fX7_item.2.1 75 = .ok (.goto 4, 3) := by decide +kernel
theorem dX7_item_78 : decode fX7_item.2.1 78 = .ok (.iload_n 3, 1) := by decide +kernel
theorem dX7_item_79 : decode fX7_item.2.1 79 = .ok (.ireturn, 1) := by decide +kernel
set_option maxRecDepth 100000 in
set_option maxHeartbeats 4000000 in
theorem ok_X7_item {X : Xb} {S : Sg} {mi : Mem} {o : Nat} {v p : Int32} (hM : MdA S o) (hZ : MlZ mi o) : Ok 2 0 0 fX7_item X [rf X o, .int v, .int p] S mi (PE S (mItem mi o v p, mi)) := by
  refine Ok.go [some (rf X o), some (.int v), some (.int p), none] (by decide) (by simp [Value.category]) (Nat.le_of_ble_eq_true rfl) rfl ?_
  obtain ⟨k_o, ⟨r_o_now, k_o_now⟩, ⟨r_o_image, k_o_image⟩, ⟨r_o_aside, k_o_aside⟩, ⟨r_o_seen, k_o_seen⟩, ⟨r_o_unlike, k_o_unlike⟩, ⟨r_o_tape, k_o_tape⟩, ⟨r_o_keys, k_o_keys⟩, ⟨r_o_keyAt, k_o_keyAt⟩, ⟨r_o_code, k_o_code⟩, ⟨r_o_waits, k_o_waits⟩, ⟨r_o_tested, k_o_tested⟩, ⟨r_o_stack, k_o_stack⟩, ⟨r_o_facts, k_o_facts⟩, ⟨r_o_sorts, k_o_sorts⟩, ⟨r_o_sizes, k_o_sizes⟩, ⟨r_o_cells, k_o_cells⟩, ⟨r_o_holds, k_o_holds⟩, ⟨r_o_holdsA, k_o_holdsA⟩, ⟨r_o_holdsB, k_o_holdsB⟩, ⟨r_o_heldCells, k_o_heldCells⟩, ⟨r_o_moved, k_o_moved⟩, ⟨r_o_tells, k_o_tells⟩⟩ := id hM
  refine mw_iload_n dX7_item_0 rfl ?_
  refine mw_cSI (g := fX7_isSlot) dX7_item_1 ml_X7_266 mfX7_isSlot (ok_X7_isSlot) rfl rfl (Nat.le_of_ble_eq_true rfl) ⟨by decide, by decide⟩ ⟨by decide, by decide⟩ ?_
  refine mw_if_neB (tgt := 10) dX7_item_4 (by decide) (fun h4 => ?_) (fun h4 => ?_)
  · skip
    obtain ⟨i, hi, rfl⟩ := inB 4 (by decide) h4
    have ev : (nI i).toNatClampNeg = i := nI_clamp (by omega)
    refine mw_aload_n dX7_item_10 rfl ?_
    refine mw_getr dX7_item_11 fl_X7_60 rfl (by assumption) (by assumption) ?_
    refine mw_iload_n dX7_item_14 rfl ?_
    refine mw_ialdK (k := i) dX7_item_15 (by assumption) (rfl) (by omega) (by decide) ?_
    refine mw_if_ne (tgt := 22) dX7_item_16 (by decide) (fun h16 => ?_) (fun h16 => ?_)
    · skip
      refine mw_aload_n dX7_item_22 rfl ?_
      refine mw_getr dX7_item_23 fl_X7_60 rfl (by assumption) (by assumption) ?_
      refine mw_iload_n dX7_item_26 rfl ?_
      refine mw_ialdK (k := i) dX7_item_27 (by assumption) (rfl) (by omega) (by decide) ?_
      refine mw_iconst (v := 2) dX7_item_28 (by decide) ?_
      refine mw_icmp_eq (tgt := 35) dX7_item_29 (by decide) (fun h29 => ?_) (fun h29 => ?_)
      · skip
        obtain ⟨z, z24, hz⟩ := hZ i (by omega) h29
        refine mw_iload_n dX7_item_35 rfl ?_
        refine mw_iconst (v := 0) dX7_item_36 (by decide) ?_
        refine mw_aload_n dX7_item_37 rfl ?_
        refine mw_getr dX7_item_38 fl_X7_63 rfl (by assumption) (by assumption) ?_
        refine mw_iload_n dX7_item_41 rfl ?_
        refine mw_ialdK (k := i) dX7_item_42 (by assumption) (rfl) (by omega) (by decide) ?_
        rw [hz]
        refine mw_iconst (v := 1) dX7_item_43 (by decide) ?_
        refine mw_isub dX7_item_44 ?_
        refine mw_cSI (g := fX7_in) dX7_item_45 ml_X7_78 mfX7_in (ok_X7_in) rfl rfl (Nat.le_of_ble_eq_true rfl) ⟨by decide, by decide⟩ ⟨by decide, by decide⟩ ?_
        refine mw_if_neB (tgt := 55) dX7_item_48 (by decide) (fun h48 => ?_) (fun h48 => ?_)
        · skip
          obtain ⟨a, ha, rfl⟩ := inN h48 (by omega)
          have ep : (nI a).toNatClampNeg = a := nI_clamp (by omega)
          refine mw_aload_n dX7_item_55 rfl ?_
          refine mw_getr dX7_item_56 fl_X7_69 rfl (by assumption) (by assumption) ?_
          refine mw_bipush (v := 24) dX7_item_59 (by decide) ?_
          refine mw_iload_n dX7_item_61 rfl ?_
          refine mw_imul dX7_item_62 ?_
          refine mw_iload_n dX7_item_63 rfl ?_
          refine mw_iadd dX7_item_64 ?_
          rw [ix24]
          refine mw_ialdK (k := 24 * i + a) dX7_item_65 (by assumption) (rfl) (by omega) (by decide) ?_
          refine mw_istN 3 dX7_item_66 rfl (by decide) ?_
          refine mw_iload_n dX7_item_67 rfl ?_
          refine mw_ldc dX7_item_68 cn_X7_172 ?_
          refine mw_icmp_ne (tgt := 78) dX7_item_70 (by decide) (fun h70 => ?_) (fun h70 => ?_)
          · skip
            refine mw_iload_n dX7_item_78 rfl ?_
            exact mw_iret dX7_item_79 rfl (by decide) (by decide) (by first | (have q : mi (o + 20) (24 * i + a) = NONEi := h70; rw [mItem, if_pos h4, ev, if_neg h16, if_neg (fun g => g h29), hz, if_neg (fun g => g h48), ep, if_pos q]; exact ⟨rfl, rfl, rfl⟩) | (rw [mItem, if_pos h4, ev, if_neg h16, if_neg (fun g => g h29), hz, if_neg (fun g => g h48), ep, if_neg h70]; exact ⟨rfl, rfl, rfl⟩) | fail "leaf")
          · skip
            refine mw_ldc dX7_item_73 cn_X7_141 ?_
            refine mw_goto (tgt := 79) dX7_item_75 (by decide) ?_
            exact mw_iret dX7_item_79 rfl (by decide) (by decide) (by first | (have q : mi (o + 20) (24 * i + a) = NONEi := h70; rw [mItem, if_pos h4, ev, if_neg h16, if_neg (fun g => g h29), hz, if_neg (fun g => g h48), ep, if_pos q]; exact ⟨rfl, rfl, rfl⟩) | (rw [mItem, if_pos h4, ev, if_neg h16, if_neg (fun g => g h29), hz, if_neg (fun g => g h48), ep, if_neg h70]; exact ⟨rfl, rfl, rfl⟩) | fail "leaf")
        · skip
          refine mw_ldcw dX7_item_51 cn_X7_263 ?_
          exact mw_iret dX7_item_54 rfl (by decide) (by decide) (by rw [mItem, if_pos h4, ev, if_neg h16, if_neg (fun g => g h29), hz, if_pos h48]; exact ⟨rfl, rfl, rfl⟩)
      · skip
        refine mw_ldc dX7_item_32 cn_X7_141 ?_
        exact mw_iret dX7_item_34 rfl (by decide) (by decide) (by rw [mItem, if_pos h4, ev, if_neg h16, if_pos h29]; exact ⟨rfl, rfl, rfl⟩)
    · skip
      refine mw_ldc dX7_item_19 cn_X7_190 ?_
      exact mw_iret dX7_item_21 rfl (by decide) (by decide) (by rw [mItem, if_pos h4, ev, if_pos h16]; exact ⟨rfl, rfl, rfl⟩)
  · skip
    refine mw_ldc dX7_item_7 cn_X7_127 ?_
    exact mw_iret dX7_item_9 rfl (by decide) (by decide) (by rw [mItem, if_neg h4]; exact ⟨rfl, rfl, rfl⟩)
def mRest (mi : Mem) (o : Nat) (v n : Int32) : Int32 := if 0 ≤ v ∧ v ≤ 4 then (if mi (o + 17) v.toNatClampNeg = 0 then NOTHINGi else if ¬ mi (o + 17) v.toNatClampNeg = 3 then KINDi else if n = 0 then NOi else if n = -1 then 0 else jr (mi (o + 18) v.toNatClampNeg) n) else BADi
theorem dX7_rest_0 : decode fX7_rest.2.1 0 = .ok (.iload_n 1, 1) := by decide +kernel
theorem dX7_rest_1 : decode fX7_rest.2.1 1 = .ok (.invokestatic 266, 3) := by decide +kernel
theorem dX7_rest_4 : decode fX7_rest.2.1 4 = .ok (.ifCond .ne 6, 3) := by decide +kernel
theorem dX7_rest_7 : decode fX7_rest.2.1 7 = .ok (.ldc 127, 2) := by decide +kernel
theorem dX7_rest_9 : decode fX7_rest.2.1 9 = .ok (.ireturn, 1) := by decide +kernel
theorem dX7_rest_10 : decode fX7_rest.2.1 10 = .ok (.aload_n 0, 1) := by decide +kernel
theorem dX7_rest_11 : decode fX7_rest.2.1 11 = .ok (.getfield 60, 3) := by decide +kernel
theorem dX7_rest_14 : decode fX7_rest.2.1 14 = .ok (.iload_n 1, 1) := by decide +kernel
theorem dX7_rest_15 : decode fX7_rest.2.1 15 = .ok (.iaload, 1) := by decide +kernel
theorem dX7_rest_16 : decode fX7_rest.2.1 16 = .ok (.ifCond .ne 6, 3) := by decide +kernel
theorem dX7_rest_19 : decode fX7_rest.2.1 19 = .ok (.ldc 190, 2) := by decide +kernel
theorem dX7_rest_21 : decode fX7_rest.2.1 21 = .ok (.ireturn, 1) := by decide +kernel
theorem dX7_rest_22 : decode fX7_rest.2.1 22 = .ok (.aload_n 0, 1) := by decide +kernel
theorem dX7_rest_23 : decode fX7_rest.2.1 23 = .ok (.getfield 60, 3) := by decide +kernel
theorem dX7_rest_26 : decode fX7_rest.2.1 26 = .ok (.iload_n 1, 1) := by decide +kernel
theorem dX7_rest_27 : decode fX7_rest.2.1 27 = .ok (.iaload, 1) := by decide +kernel
theorem dX7_rest_28 : decode fX7_rest.2.1 28 = .ok (.iconst 3, 1) := by decide +kernel
theorem dX7_rest_29 : decode fX7_rest.2.1 29 = .ok (.if_icmp .eq 6, 3) := by decide +kernel
theorem dX7_rest_32 : decode fX7_rest.2.1 32 = .ok (.ldc 141, 2) := by decide +kernel
theorem dX7_rest_34 : decode fX7_rest.2.1 34 = .ok (.ireturn, 1) := by decide +kernel
theorem dX7_rest_35 : decode fX7_rest.2.1 35 = .ok (.iload_n 2, 1) := by decide +kernel
theorem dX7_rest_36 : decode fX7_rest.2.1 36 = .ok (.ifCond .ne 9, 3) := by decide +kernel
theorem dX7_rest_39 : decode fX7_rest.2.1 39 = .ok (.ldc_w 272, 3) := by decide +kernel
theorem dX7_rest_42 : decode fX7_rest.2.1 42 = .ok (.goto 20, 3) := by decide +kernel
theorem dX7_rest_45 : decode fX7_rest.2.1 45 = .ok (.iload_n 2, 1) := by decide +kernel
theorem dX7_rest_46 : decode fX7_rest.2.1 46 = .ok (.iconst (-1), 1) := by decide +kernel
theorem dX7_rest_47 : decode fX7_rest.2.1 47 = .ok (.if_icmp .ne 7, 3) := by decide +kernel
theorem dX7_rest_50 : decode fX7_rest.2.1 50 = .ok (.iconst 0, 1) := by decide +kernel
theorem dX7_rest_51 : decode fX7_rest.2.1 51 = .ok (.goto 11, 3) := by decide +kernel
theorem dX7_rest_54 : decode fX7_rest.2.1 54 = .ok (.aload_n 0, 1) := by decide +kernel
theorem dX7_rest_55 : decode fX7_rest.2.1 55 = .ok (.getfield 63, 3) := by decide +kernel
theorem dX7_rest_58 : decode fX7_rest.2.1 58 = .ok (.iload_n 1, 1) := by decide +kernel
theorem dX7_rest_59 : decode fX7_rest.2.1 59 = .ok (.iaload, 1) := by decide +kernel
theorem dX7_rest_60 : decode fX7_rest.2.1 60 = .ok (.iload_n 2, 1) := by decide +kernel
theorem dX7_rest_61 : decode fX7_rest.2.1 61 = .ok (.irem, 1) := by decide +kernel
theorem dX7_rest_62 : decode fX7_rest.2.1 62 = .ok (.ireturn, 1) := by decide +kernel
set_option maxRecDepth 100000 in
set_option maxHeartbeats 4000000 in
theorem ok_X7_rest {X : Xb} {S : Sg} {mi : Mem} {o : Nat} {v n : Int32} (hM : MdA S o) : Ok 2 0 0 fX7_rest X [rf X o, .int v, .int n] S mi (PE S (mRest mi o v n, mi)) := by
  refine Ok.go [some (rf X o), some (.int v), some (.int n)] (by decide) (by simp [Value.category]) (Nat.le_of_ble_eq_true rfl) rfl ?_
  obtain ⟨k_o, ⟨r_o_now, k_o_now⟩, ⟨r_o_image, k_o_image⟩, ⟨r_o_aside, k_o_aside⟩, ⟨r_o_seen, k_o_seen⟩, ⟨r_o_unlike, k_o_unlike⟩, ⟨r_o_tape, k_o_tape⟩, ⟨r_o_keys, k_o_keys⟩, ⟨r_o_keyAt, k_o_keyAt⟩, ⟨r_o_code, k_o_code⟩, ⟨r_o_waits, k_o_waits⟩, ⟨r_o_tested, k_o_tested⟩, ⟨r_o_stack, k_o_stack⟩, ⟨r_o_facts, k_o_facts⟩, ⟨r_o_sorts, k_o_sorts⟩, ⟨r_o_sizes, k_o_sizes⟩, ⟨r_o_cells, k_o_cells⟩, ⟨r_o_holds, k_o_holds⟩, ⟨r_o_holdsA, k_o_holdsA⟩, ⟨r_o_holdsB, k_o_holdsB⟩, ⟨r_o_heldCells, k_o_heldCells⟩, ⟨r_o_moved, k_o_moved⟩, ⟨r_o_tells, k_o_tells⟩⟩ := id hM
  refine mw_iload_n dX7_rest_0 rfl ?_
  refine mw_cSI (g := fX7_isSlot) dX7_rest_1 ml_X7_266 mfX7_isSlot (ok_X7_isSlot) rfl rfl (Nat.le_of_ble_eq_true rfl) ⟨by decide, by decide⟩ ⟨by decide, by decide⟩ ?_
  refine mw_if_neB (tgt := 10) dX7_rest_4 (by decide) (fun h4 => ?_) (fun h4 => ?_)
  · skip
    obtain ⟨i, hi, rfl⟩ := inB 4 (by decide) h4
    have ev : (nI i).toNatClampNeg = i := nI_clamp (by omega)
    refine mw_aload_n dX7_rest_10 rfl ?_
    refine mw_getr dX7_rest_11 fl_X7_60 rfl (by assumption) (by assumption) ?_
    refine mw_iload_n dX7_rest_14 rfl ?_
    refine mw_ialdK (k := i) dX7_rest_15 (by assumption) (rfl) (by omega) (by decide) ?_
    refine mw_if_ne (tgt := 22) dX7_rest_16 (by decide) (fun h16 => ?_) (fun h16 => ?_)
    · skip
      refine mw_aload_n dX7_rest_22 rfl ?_
      refine mw_getr dX7_rest_23 fl_X7_60 rfl (by assumption) (by assumption) ?_
      refine mw_iload_n dX7_rest_26 rfl ?_
      refine mw_ialdK (k := i) dX7_rest_27 (by assumption) (rfl) (by omega) (by decide) ?_
      refine mw_iconst (v := 3) dX7_rest_28 (by decide) ?_
      refine mw_icmp_eq (tgt := 35) dX7_rest_29 (by decide) (fun h29 => ?_) (fun h29 => ?_)
      · skip
        refine mw_iload_n dX7_rest_35 rfl ?_
        refine mw_if_ne (tgt := 45) dX7_rest_36 (by decide) (fun h36 => ?_) (fun h36 => ?_)
        · skip
          refine mw_iload_n dX7_rest_45 rfl ?_
          refine mw_iconst (v := (-1)) dX7_rest_46 (by decide) ?_
          refine mw_icmp_ne (tgt := 54) dX7_rest_47 (by decide) (fun h47 => ?_) (fun h47 => ?_)
          · skip
            refine mw_aload_n dX7_rest_54 rfl ?_
            refine mw_getr dX7_rest_55 fl_X7_63 rfl (by assumption) (by assumption) ?_
            refine mw_iload_n dX7_rest_58 rfl ?_
            refine mw_ialdK (k := i) dX7_rest_59 (by assumption) (rfl) (by omega) (by decide) ?_
            refine mw_iload_n dX7_rest_60 rfl ?_
            refine mw_irem dX7_rest_61 (h36) ?_
            exact mw_iret dX7_rest_62 rfl (by decide) (by decide) (by first | (rw [mRest, if_pos h4, ev, if_neg h16, if_neg (fun g => g h29), if_pos h36]; exact ⟨rfl, rfl, rfl⟩) | (rw [mRest, if_pos h4, ev, if_neg h16, if_neg (fun g => g h29), if_neg h36, if_pos h47]; exact ⟨rfl, rfl, rfl⟩) | (rw [mRest, if_pos h4, ev, if_neg h16, if_neg (fun g => g h29), if_neg h36, if_neg h47]; exact ⟨rfl, rfl, rfl⟩) | fail "leaf")
          · skip
            refine mw_iconst (v := 0) dX7_rest_50 (by decide) ?_
            refine mw_goto (tgt := 62) dX7_rest_51 (by decide) ?_
            exact mw_iret dX7_rest_62 rfl (by decide) (by decide) (by first | (rw [mRest, if_pos h4, ev, if_neg h16, if_neg (fun g => g h29), if_pos h36]; exact ⟨rfl, rfl, rfl⟩) | (rw [mRest, if_pos h4, ev, if_neg h16, if_neg (fun g => g h29), if_neg h36, if_pos h47]; exact ⟨rfl, rfl, rfl⟩) | (rw [mRest, if_pos h4, ev, if_neg h16, if_neg (fun g => g h29), if_neg h36, if_neg h47]; exact ⟨rfl, rfl, rfl⟩) | fail "leaf")
        · skip
          refine mw_ldcw dX7_rest_39 cn_X7_272 ?_
          refine mw_goto (tgt := 62) dX7_rest_42 (by decide) ?_
          exact mw_iret dX7_rest_62 rfl (by decide) (by decide) (by first | (rw [mRest, if_pos h4, ev, if_neg h16, if_neg (fun g => g h29), if_pos h36]; exact ⟨rfl, rfl, rfl⟩) | (rw [mRest, if_pos h4, ev, if_neg h16, if_neg (fun g => g h29), if_neg h36, if_pos h47]; exact ⟨rfl, rfl, rfl⟩) | (rw [mRest, if_pos h4, ev, if_neg h16, if_neg (fun g => g h29), if_neg h36, if_neg h47]; exact ⟨rfl, rfl, rfl⟩) | fail "leaf")
      · skip
        refine mw_ldc dX7_rest_32 cn_X7_141 ?_
        exact mw_iret dX7_rest_34 rfl (by decide) (by decide) (by rw [mRest, if_pos h4, ev, if_neg h16, if_pos h29]; exact ⟨rfl, rfl, rfl⟩)
    · skip
      refine mw_ldc dX7_rest_19 cn_X7_190 ?_
      exact mw_iret dX7_rest_21 rfl (by decide) (by decide) (by rw [mRest, if_pos h4, ev, if_pos h16]; exact ⟨rfl, rfl, rfl⟩)
  · skip
    refine mw_ldc dX7_rest_7 cn_X7_127 ?_
    exact mw_iret dX7_rest_9 rfl (by decide) (by decide) (by rw [mRest, if_neg h4]; exact ⟨rfl, rfl, rfl⟩)
def mTell (mi : Mem) (o w : Nat) (v : Int32) : Int32 × Mem := if w < 60 then (nI (w + 1), m_up (m_up mi (o + 22) w v) o 33 (nI (w + 1))) else (FULLi, mi)
theorem dX7_tell_0 : decode fX7_tell.2.1 0 = .ok (.aload_n 0, 1) := by decide +kernel
theorem dX7_tell_1 : decode fX7_tell.2.1 1 = .ok (.getfield 273, 3) := by decide +kernel
theorem dX7_tell_4 : decode fX7_tell.2.1 4 = .ok (.bipush 60, 2) := by decide +kernel
theorem dX7_tell_6 : decode fX7_tell.2.1 6 = .ok (.if_icmp .ne 6, 3) := by decide +kernel
theorem dX7_tell_9 : decode fX7_tell.2.1 9 = .ok (.ldc 128, 2) := by decide +kernel
theorem dX7_tell_11 : decode fX7_tell.2.1 11 = .ok (.ireturn, 1) := by decide +kernel
theorem dX7_tell_12 : decode fX7_tell.2.1 12 = .ok (.aload_n 0, 1) := by decide +kernel
theorem dX7_tell_13 : decode fX7_tell.2.1 13 = .ok (.getfield 75, 3) := by decide +kernel
theorem dX7_tell_16 : decode fX7_tell.2.1 16 = .ok (.aload_n 0, 1) := by decide +kernel
theorem dX7_tell_17 : decode fX7_tell.2.1 17 = .ok (.getfield 273, 3) := by decide +kernel
theorem dX7_tell_20 : decode fX7_tell.2.1 20 = .ok (.iload_n 1, 1) := by decide +kernel
theorem dX7_tell_21 : decode fX7_tell.2.1 21 = .ok (.iastore, 1) := by decide +kernel
theorem dX7_tell_22 : decode fX7_tell.2.1 22 = .ok (.aload_n 0, 1) := by decide +kernel
theorem dX7_tell_23 : decode fX7_tell.2.1 23 = .ok (.dup, 1) := by decide +kernel
theorem dX7_tell_24 : decode fX7_tell.2.1 24 = .ok (.getfield 273, 3) := by decide +kernel
theorem dX7_tell_27 : decode fX7_tell.2.1 27 = .ok (.iconst 1, 1) := by decide +kernel
theorem dX7_tell_28 : decode fX7_tell.2.1 28 = .ok (.iadd, 1) := by decide +kernel
theorem dX7_tell_29 : decode fX7_tell.2.1 29 = .ok (.putfield 273, 3) := by decide +kernel
theorem dX7_tell_32 : decode fX7_tell.2.1 32 = .ok (.aload_n 0, 1) := by decide +kernel
theorem dX7_tell_33 : decode fX7_tell.2.1 33 = .ok (.getfield 273, 3) := by decide +kernel
theorem dX7_tell_36 : decode fX7_tell.2.1 36 = .ok (.ireturn, 1) := by decide +kernel
set_option maxRecDepth 100000 in
set_option maxHeartbeats 4000000 in
theorem ok_X7_tell {X : Xb} {S : Sg} {mi : Mem} {o w : Nat} {v : Int32} (hM : MdA S o) (hw : mi o 33 = nI w) (hw60 : w ≤ 60) : Ok 0 0 0 fX7_tell X [rf X o, .int v] S mi (PE S (mTell mi o w v)) := by
  refine Ok.go [some (rf X o), some (.int v)] (by decide) (by simp [Value.category]) (Nat.le_of_ble_eq_true rfl) rfl ?_
  obtain ⟨k_o, ⟨r_o_now, k_o_now⟩, ⟨r_o_image, k_o_image⟩, ⟨r_o_aside, k_o_aside⟩, ⟨r_o_seen, k_o_seen⟩, ⟨r_o_unlike, k_o_unlike⟩, ⟨r_o_tape, k_o_tape⟩, ⟨r_o_keys, k_o_keys⟩, ⟨r_o_keyAt, k_o_keyAt⟩, ⟨r_o_code, k_o_code⟩, ⟨r_o_waits, k_o_waits⟩, ⟨r_o_tested, k_o_tested⟩, ⟨r_o_stack, k_o_stack⟩, ⟨r_o_facts, k_o_facts⟩, ⟨r_o_sorts, k_o_sorts⟩, ⟨r_o_sizes, k_o_sizes⟩, ⟨r_o_cells, k_o_cells⟩, ⟨r_o_holds, k_o_holds⟩, ⟨r_o_holdsA, k_o_holdsA⟩, ⟨r_o_holdsB, k_o_holdsB⟩, ⟨r_o_heldCells, k_o_heldCells⟩, ⟨r_o_moved, k_o_moved⟩, ⟨r_o_tells, k_o_tells⟩⟩ := id hM
  have nx : o ≠ o + 22 := by omega
  refine mw_aload_n dX7_tell_0 rfl ?_
  refine mw_geti dX7_tell_1 fl_X7_273 rfl (by assumption) ?_
  refine mw_bipush (v := 60) dX7_tell_4 (by decide) ?_
  rw [hw]
  refine mw_icmp_ne (tgt := 12) dX7_tell_6 (by decide) (fun h6 => ?_) (fun h6 => ?_)
  · skip
    have g : w < 60 := by { rcases Nat.lt_or_ge w 60 with q | q; exact q; exact absurd (show nI w = 60 from by rw [show w = 60 by omega]; rfl) h6 }
    refine mw_aload_n dX7_tell_12 rfl ?_
    refine mw_getr dX7_tell_13 fl_X7_75 rfl (by assumption) (by assumption) ?_
    refine mw_aload_n dX7_tell_16 rfl ?_
    refine mw_geti dX7_tell_17 fl_X7_273 rfl (by assumption) ?_
    rw [hw]
    refine mw_iload_n dX7_tell_20 rfl ?_
    refine mw_iastK (k := w) dX7_tell_21 (by assumption) (rfl) (g) (by decide) ?_
    refine mw_aload_n dX7_tell_22 rfl ?_
    refine mw_dup dX7_tell_23 rfl ?_
    refine mw_geti dX7_tell_24 fl_X7_273 rfl (by assumption) ?_
    rw [m_up_ne nx, hw]
    refine mw_iconst (v := 1) dX7_tell_27 (by decide) ?_
    refine mw_iadd dX7_tell_28 ?_
    rw [nI_1]
    refine mw_puti dX7_tell_29 fl_X7_273 ft_7_33 rfl (rfl) rfl (by assumption) ?_
    refine mw_aload_n dX7_tell_32 rfl ?_
    refine mw_geti dX7_tell_33 fl_X7_273 rfl (by assumption) ?_
    rw [m_up_at]
    exact mw_iret dX7_tell_36 rfl (by decide) (by decide) (by rw [mTell, if_pos g]; exact ⟨rfl, rfl, rfl⟩)
  · skip
    refine mw_ldc dX7_tell_9 cn_X7_128 ?_
    exact mw_iret dX7_tell_11 rfl (by decide) (by decide) (by have e : w = 60 := (nI_eq (b := 60) (by omega) (by decide)).mp h6; rw [mTell, if_neg (by omega)]; exact ⟨rfl, rfl, rfl⟩)
def mCount (mi : Mem) (o : Nat) (v : Int32) : Int32 := if v = 0 then mi (o + 1) 1 else if v = 1 then mi (o + 1) 2 else if v = 2 then mi (o + 1) 3 else if v = 3 then mi (o + 1) 4 else if v = 4 then mi (o + 1) 5 else if v = 5 then mi o 33 else if v = 6 then mi o 7 else if v = 7 then mi (o + 1) 0 else BADi
theorem dX7_count_0 : decode fX7_count.2.1 0 = .ok (.iload_n 1, 1) := by decide +kernel
theorem dX7_count_1 : decode fX7_count.2.1 1 = .ok (.tableswitch 89 0 7 #[47, 54, 54, 54, 65, 72, 77, 82], 47) := by decide +kernel
theorem dX7_count_48 : decode fX7_count.2.1 48 = .ok (.aload_n 0, 1) := by decide +kernel
theorem dX7_count_49 : decode fX7_count.2.1 49 = .ok (.getfield 9, 3) := by decide +kernel
theorem dX7_count_52 : decode fX7_count.2.1 52 = .ok (.iconst 1, 1) := by decide +kernel
theorem dX7_count_53 : decode fX7_count.2.1 53 = .ok (.iaload, 1) := by decide +kernel
theorem dX7_count_54 : decode fX7_count.2.1 54 = .ok (.ireturn, 1) := by decide +kernel
theorem dX7_count_55 : decode fX7_count.2.1 55 = .ok (.aload_n 0, 1) := by decide +kernel
theorem dX7_count_56 : decode fX7_count.2.1 56 = .ok (.getfield 9, 3) := by decide +kernel
theorem dX7_count_59 : decode fX7_count.2.1 59 = .ok (.iconst 2, 1) := by decide +kernel
theorem dX7_count_60 : decode fX7_count.2.1 60 = .ok (.iload_n 1, 1) := by decide +kernel
theorem dX7_count_61 : decode fX7_count.2.1 61 = .ok (.iadd, 1) := by decide +kernel
theorem dX7_count_62 : decode fX7_count.2.1 62 = .ok (.iconst 1, 1) := by decide +kernel
theorem dX7_count_63 : decode fX7_count.2.1 63 = .ok (.isub, 1) := by decide +kernel
theorem dX7_count_64 : decode fX7_count.2.1 64 = .ok (.iaload, 1) := by decide +kernel
theorem dX7_count_65 : decode fX7_count.2.1 65 = .ok (.ireturn, 1) := by decide +kernel
theorem dX7_count_66 : decode fX7_count.2.1 66 = .ok (.aload_n 0, 1) := by decide +kernel
theorem dX7_count_67 : decode fX7_count.2.1 67 = .ok (.getfield 9, 3) := by decide +kernel
theorem dX7_count_70 : decode fX7_count.2.1 70 = .ok (.iconst 5, 1) := by decide +kernel
theorem dX7_count_71 : decode fX7_count.2.1 71 = .ok (.iaload, 1) := by decide +kernel
theorem dX7_count_72 : decode fX7_count.2.1 72 = .ok (.ireturn, 1) := by decide +kernel
theorem dX7_count_73 : decode fX7_count.2.1 73 = .ok (.aload_n 0, 1) := by decide +kernel
theorem dX7_count_74 : decode fX7_count.2.1 74 = .ok (.getfield 273, 3) := by decide +kernel
theorem dX7_count_77 : decode fX7_count.2.1 77 = .ok (.ireturn, 1) := by decide +kernel
theorem dX7_count_78 : decode fX7_count.2.1 78 = .ok (.aload_n 0, 1) := by decide +kernel
theorem dX7_count_79 : decode fX7_count.2.1 79 = .ok (.getfield 194, 3) := by decide +kernel
theorem dX7_count_82 : decode fX7_count.2.1 82 = .ok (.ireturn, 1) := by decide +kernel
theorem dX7_count_83 : decode fX7_count.2.1 83 = .ok (.aload_n 0, 1) := by decide +kernel
theorem dX7_count_84 : decode fX7_count.2.1 84 = .ok (.getfield 9, 3) := by decide +kernel
theorem dX7_count_87 : decode fX7_count.2.1 87 = .ok (.iconst 0, 1) := by decide +kernel
theorem dX7_count_88 : decode fX7_count.2.1 88 = .ok (.iaload, 1) := by decide +kernel
theorem dX7_count_89 : decode fX7_count.2.1 89 = .ok (.ireturn, 1) := by decide +kernel
theorem dX7_count_90 : decode fX7_count.2.1 90 = .ok (.ldc 127, 2) := by decide +kernel
theorem dX7_count_92 : decode fX7_count.2.1 92 = .ok (.ireturn, 1) := by decide +kernel
set_option maxRecDepth 100000 in
set_option maxHeartbeats 4000000 in
theorem ok_X7_count {X : Xb} {S : Sg} {mi : Mem} {o : Nat} {v : Int32} (hM : MdA S o) : Ok 0 0 0 fX7_count X [rf X o, .int v] S mi (PE S (mCount mi o v, mi)) := by
  refine Ok.go [some (rf X o), some (.int v)] (by decide) (by simp [Value.category]) (Nat.le_of_ble_eq_true rfl) rfl ?_
  obtain ⟨k_o, ⟨r_o_now, k_o_now⟩, ⟨r_o_image, k_o_image⟩, ⟨r_o_aside, k_o_aside⟩, ⟨r_o_seen, k_o_seen⟩, ⟨r_o_unlike, k_o_unlike⟩, ⟨r_o_tape, k_o_tape⟩, ⟨r_o_keys, k_o_keys⟩, ⟨r_o_keyAt, k_o_keyAt⟩, ⟨r_o_code, k_o_code⟩, ⟨r_o_waits, k_o_waits⟩, ⟨r_o_tested, k_o_tested⟩, ⟨r_o_stack, k_o_stack⟩, ⟨r_o_facts, k_o_facts⟩, ⟨r_o_sorts, k_o_sorts⟩, ⟨r_o_sizes, k_o_sizes⟩, ⟨r_o_cells, k_o_cells⟩, ⟨r_o_holds, k_o_holds⟩, ⟨r_o_holdsA, k_o_holdsA⟩, ⟨r_o_holdsB, k_o_holdsB⟩, ⟨r_o_heldCells, k_o_heldCells⟩, ⟨r_o_moved, k_o_moved⟩, ⟨r_o_tells, k_o_tells⟩⟩ := id hM
  have j1 : (2 : Int32) + 1 - 1 = nI 2 := by decide
  have j2 : (2 : Int32) + 2 - 1 = nI 3 := by decide
  have j3 : (2 : Int32) + 3 - 1 = nI 4 := by decide
  refine mw_iload_n dX7_count_0 rfl ?_
  refine mw_ts1 dX7_count_1 (by decide) 0 48 (by decide) (fun h1_0 => ?_) (fun h1_0 => ?_)
  · skip
    refine mw_aload_n dX7_count_48 rfl ?_
    refine mw_getr dX7_count_49 fl_X7_9 rfl (by assumption) (by assumption) ?_
    refine mw_iconst (v := 1) dX7_count_52 (by decide) ?_
    refine mw_ialdK (k := 1) dX7_count_53 (by assumption) (rfl) (by decide) (by decide) ?_
    exact mw_iret dX7_count_54 rfl (by decide) (by decide) (⟨by simp only [mCount]; simp_all, rfl, rfl⟩)
  refine mw_ts1 dX7_count_1 (by decide) 1 55 (by decide) (fun h1_1 => ?_) (fun h1_1 => ?_)
  · skip
    first
      | subst h1_1
      | subst h1_2
      | subst h1_3
      | fail "b55"
    refine mw_aload_n dX7_count_55 rfl ?_
    refine mw_getr dX7_count_56 fl_X7_9 rfl (by assumption) (by assumption) ?_
    refine mw_iconst (v := 2) dX7_count_59 (by decide) ?_
    refine mw_iload_n dX7_count_60 rfl ?_
    refine mw_iadd dX7_count_61 ?_
    refine mw_iconst (v := 1) dX7_count_62 (by decide) ?_
    refine mw_isub dX7_count_63 ?_
    first
      | refine mw_ialdK (k := 2) dX7_count_64 k_o_now j1 (by decide) (by decide) ?_
      | refine mw_ialdK (k := 3) dX7_count_64 k_o_now j2 (by decide) (by decide) ?_
      | refine mw_ialdK (k := 4) dX7_count_64 k_o_now j3 (by decide) (by decide) ?_
      | fail "b64"
    exact mw_iret dX7_count_65 rfl (by decide) (by decide) (⟨rfl, rfl, rfl⟩)
  refine mw_ts1 dX7_count_1 (by decide) 2 55 (by decide) (fun h1_2 => ?_) (fun h1_2 => ?_)
  · skip
    first
      | subst h1_1
      | subst h1_2
      | subst h1_3
      | fail "b55"
    refine mw_aload_n dX7_count_55 rfl ?_
    refine mw_getr dX7_count_56 fl_X7_9 rfl (by assumption) (by assumption) ?_
    refine mw_iconst (v := 2) dX7_count_59 (by decide) ?_
    refine mw_iload_n dX7_count_60 rfl ?_
    refine mw_iadd dX7_count_61 ?_
    refine mw_iconst (v := 1) dX7_count_62 (by decide) ?_
    refine mw_isub dX7_count_63 ?_
    first
      | refine mw_ialdK (k := 2) dX7_count_64 k_o_now j1 (by decide) (by decide) ?_
      | refine mw_ialdK (k := 3) dX7_count_64 k_o_now j2 (by decide) (by decide) ?_
      | refine mw_ialdK (k := 4) dX7_count_64 k_o_now j3 (by decide) (by decide) ?_
      | fail "b64"
    exact mw_iret dX7_count_65 rfl (by decide) (by decide) (⟨rfl, rfl, rfl⟩)
  refine mw_ts1 dX7_count_1 (by decide) 3 55 (by decide) (fun h1_3 => ?_) (fun h1_3 => ?_)
  · skip
    first
      | subst h1_1
      | subst h1_2
      | subst h1_3
      | fail "b55"
    refine mw_aload_n dX7_count_55 rfl ?_
    refine mw_getr dX7_count_56 fl_X7_9 rfl (by assumption) (by assumption) ?_
    refine mw_iconst (v := 2) dX7_count_59 (by decide) ?_
    refine mw_iload_n dX7_count_60 rfl ?_
    refine mw_iadd dX7_count_61 ?_
    refine mw_iconst (v := 1) dX7_count_62 (by decide) ?_
    refine mw_isub dX7_count_63 ?_
    first
      | refine mw_ialdK (k := 2) dX7_count_64 k_o_now j1 (by decide) (by decide) ?_
      | refine mw_ialdK (k := 3) dX7_count_64 k_o_now j2 (by decide) (by decide) ?_
      | refine mw_ialdK (k := 4) dX7_count_64 k_o_now j3 (by decide) (by decide) ?_
      | fail "b64"
    exact mw_iret dX7_count_65 rfl (by decide) (by decide) (⟨rfl, rfl, rfl⟩)
  refine mw_ts1 dX7_count_1 (by decide) 4 66 (by decide) (fun h1_4 => ?_) (fun h1_4 => ?_)
  · skip
    refine mw_aload_n dX7_count_66 rfl ?_
    refine mw_getr dX7_count_67 fl_X7_9 rfl (by assumption) (by assumption) ?_
    refine mw_iconst (v := 5) dX7_count_70 (by decide) ?_
    refine mw_ialdK (k := 5) dX7_count_71 (by assumption) (rfl) (by decide) (by decide) ?_
    exact mw_iret dX7_count_72 rfl (by decide) (by decide) (⟨by simp only [mCount]; simp_all, rfl, rfl⟩)
  refine mw_ts1 dX7_count_1 (by decide) 5 73 (by decide) (fun h1_5 => ?_) (fun h1_5 => ?_)
  · skip
    refine mw_aload_n dX7_count_73 rfl ?_
    refine mw_geti dX7_count_74 fl_X7_273 rfl (by assumption) ?_
    exact mw_iret dX7_count_77 rfl (by decide) (by decide) (⟨by simp only [mCount]; simp_all, rfl, rfl⟩)
  refine mw_ts1 dX7_count_1 (by decide) 6 78 (by decide) (fun h1_6 => ?_) (fun h1_6 => ?_)
  · skip
    refine mw_aload_n dX7_count_78 rfl ?_
    refine mw_geti dX7_count_79 fl_X7_194 rfl (by assumption) ?_
    exact mw_iret dX7_count_82 rfl (by decide) (by decide) (⟨by simp only [mCount]; simp_all, rfl, rfl⟩)
  refine mw_ts1 dX7_count_1 (by decide) 7 83 (by decide) (fun h1_7 => ?_) (fun h1_7 => ?_)
  · skip
    refine mw_aload_n dX7_count_83 rfl ?_
    refine mw_getr dX7_count_84 fl_X7_9 rfl (by assumption) (by assumption) ?_
    refine mw_iconst (v := 0) dX7_count_87 (by decide) ?_
    refine mw_ialdK (k := 0) dX7_count_88 (by assumption) (rfl) (by decide) (by decide) ?_
    exact mw_iret dX7_count_89 rfl (by decide) (by decide) (⟨by simp only [mCount]; simp_all, rfl, rfl⟩)
  refine mw_ts0 dX7_count_1 (by decide) 90 (by decide) (by have e0 := ne_toI (n := 0) (by decide) h1_0; have e1 := ne_toI (n := 1) (by decide) h1_1; have e2 := ne_toI (n := 2) (by decide) h1_2; have e3 := ne_toI (n := 3) (by decide) h1_3; have e4 := ne_toI (n := 4) (by decide) h1_4; have e5 := ne_toI (n := 5) (by decide) h1_5; have e6 := ne_toI (n := 6) (by decide) h1_6; have e7 := ne_toI (n := 7) (by decide) h1_7; omega) ?_
  refine mw_ldc dX7_count_90 cn_X7_127 ?_
  exact mw_iret dX7_count_92 rfl (by decide) (by decide) (⟨by simp only [mCount]; simp_all, rfl, rfl⟩)
theorem dX7_keep_0 : decode fX7_keep.2.1 0 = .ok (.aload_n 0, 1) := by decide +kernel
theorem dX7_keep_1 : decode fX7_keep.2.1 1 = .ok (.getfield 9, 3) := by decide +kernel
theorem dX7_keep_4 : decode fX7_keep.2.1 4 = .ok (.aload_n 0, 1) := by decide +kernel
theorem dX7_keep_5 : decode fX7_keep.2.1 5 = .ok (.getfield 13, 3) := by decide +kernel
theorem dX7_keep_8 : decode fX7_keep.2.1 8 = .ok (.invokestatic 173, 3) := by decide +kernel
theorem dX7_keep_11 : decode fX7_keep.2.1 11 = .ok (.aload_n 0, 1) := by decide +kernel
theorem dX7_keep_12 : decode fX7_keep.2.1 12 = .ok (.iconst 1, 1) := by decide +kernel
theorem dX7_keep_13 : decode fX7_keep.2.1 13 = .ok (.putfield 276, 3) := by decide +kernel
theorem dX7_keep_16 : decode fX7_keep.2.1 16 = .ok (.aload_n 0, 1) := by decide +kernel
theorem dX7_keep_17 : decode fX7_keep.2.1 17 = .ok (.getfield 9, 3) := by decide +kernel
theorem dX7_keep_20 : decode fX7_keep.2.1 20 = .ok (.iconst 1, 1) := by decide +kernel
theorem dX7_keep_21 : decode fX7_keep.2.1 21 = .ok (.iaload, 1) := by decide +kernel
theorem dX7_keep_22 : decode fX7_keep.2.1 22 = .ok (.ireturn, 1) := by decide +kernel
set_option maxRecDepth 100000 in
set_option maxHeartbeats 4000000 in
theorem ok_X7_keep {X : Xb} {S : Sg} {mi : Mem} {o : Nat} (hM : MdA S o) : Ok 1 0 0 fX7_keep X [rf X o] S mi (PE S (mi (o + 1) 1, m_up (m_cpy mi (o + 1) (o + 2) 0 0 1438) o 3 1)) := by
  refine Ok.go [some (rf X o)] (by decide) (by simp [Value.category]) (Nat.le_of_ble_eq_true rfl) rfl ?_
  obtain ⟨k_o, ⟨r_o_now, k_o_now⟩, ⟨r_o_image, k_o_image⟩, ⟨r_o_aside, k_o_aside⟩, ⟨r_o_seen, k_o_seen⟩, ⟨r_o_unlike, k_o_unlike⟩, ⟨r_o_tape, k_o_tape⟩, ⟨r_o_keys, k_o_keys⟩, ⟨r_o_keyAt, k_o_keyAt⟩, ⟨r_o_code, k_o_code⟩, ⟨r_o_waits, k_o_waits⟩, ⟨r_o_tested, k_o_tested⟩, ⟨r_o_stack, k_o_stack⟩, ⟨r_o_facts, k_o_facts⟩, ⟨r_o_sorts, k_o_sorts⟩, ⟨r_o_sizes, k_o_sizes⟩, ⟨r_o_cells, k_o_cells⟩, ⟨r_o_holds, k_o_holds⟩, ⟨r_o_holdsA, k_o_holdsA⟩, ⟨r_o_holdsB, k_o_holdsB⟩, ⟨r_o_heldCells, k_o_heldCells⟩, ⟨r_o_moved, k_o_moved⟩, ⟨r_o_tells, k_o_tells⟩⟩ := id hM
  have e : m_up (m_cpy mi (o + 1) (o + 2) 0 0 1438) o 3 1 (o + 1) 1 = mi (o + 1) 1 := by rw [m_up_ne (by omega)]; simp [m_cpy]
  refine mw_aload_n dX7_keep_0 rfl ?_
  refine mw_getr dX7_keep_1 fl_X7_9 rfl (by assumption) (by assumption) ?_
  refine mw_aload_n dX7_keep_4 rfl ?_
  refine mw_getr dX7_keep_5 fl_X7_13 rfl (by assumption) (by assumption) ?_
  refine mw_cSV (g := fX7_copyAll) dX7_keep_8 ml_X7_173 mfX7_copyAll (ok_X7_copyAll k_o_now k_o_image (by omega)) rfl rfl (Nat.le_of_ble_eq_true rfl) ⟨by decide, by decide⟩ ⟨by decide, by decide⟩ ?_
  refine mw_aload_n dX7_keep_11 rfl ?_
  refine mw_iconst (v := 1) dX7_keep_12 (by decide) ?_
  refine mw_puti dX7_keep_13 fl_X7_276 ft_7_3 rfl (rfl) rfl (by assumption) ?_
  refine mw_aload_n dX7_keep_16 rfl ?_
  refine mw_getr dX7_keep_17 fl_X7_9 rfl (by assumption) (by assumption) ?_
  refine mw_iconst (v := 1) dX7_keep_20 (by decide) ?_
  refine mw_ialdK (k := 1) dX7_keep_21 (by assumption) (rfl) (by decide) (by decide) ?_
  rw [e]
  exact mw_iret dX7_keep_22 rfl (by decide) (by decide) (⟨rfl, rfl, rfl⟩)
theorem dX7_back_0 : decode fX7_back.2.1 0 = .ok (.aload_n 0, 1) := by decide +kernel
theorem dX7_back_1 : decode fX7_back.2.1 1 = .ok (.getfield 276, 3) := by decide +kernel
theorem dX7_back_4 : decode fX7_back.2.1 4 = .ok (.ifCond .ne 7, 3) := by decide +kernel
theorem dX7_back_7 : decode fX7_back.2.1 7 = .ok (.ldc_w 272, 3) := by decide +kernel
theorem dX7_back_10 : decode fX7_back.2.1 10 = .ok (.ireturn, 1) := by decide +kernel
theorem dX7_back_11 : decode fX7_back.2.1 11 = .ok (.aload_n 0, 1) := by decide +kernel
theorem dX7_back_12 : decode fX7_back.2.1 12 = .ok (.getfield 13, 3) := by decide +kernel
theorem dX7_back_15 : decode fX7_back.2.1 15 = .ok (.aload_n 0, 1) := by decide +kernel
theorem dX7_back_16 : decode fX7_back.2.1 16 = .ok (.getfield 9, 3) := by decide +kernel
theorem dX7_back_19 : decode fX7_back.2.1 19 = .ok (.invokestatic 173, 3) := by decide +kernel
theorem dX7_back_22 : decode fX7_back.2.1 22 = .ok (.aload_n 0, 1) := by decide +kernel
theorem dX7_back_23 : decode fX7_back.2.1 23 = .ok (.getfield 9, 3) := by decide +kernel
theorem dX7_back_26 : decode fX7_back.2.1 26 = .ok (.iconst 1, 1) := by decide +kernel
theorem dX7_back_27 : decode fX7_back.2.1 27 = .ok (.iaload, 1) := by decide +kernel
theorem dX7_back_28 : decode fX7_back.2.1 28 = .ok (.ireturn, 1) := by decide +kernel
set_option maxRecDepth 100000 in
set_option maxHeartbeats 4000000 in
theorem ok_X7_back {X : Xb} {S : Sg} {mi : Mem} {o : Nat} (hM : MdA S o) : Ok 1 0 0 fX7_back X [rf X o] S mi (PE S (if mi o 3 = 0 then (NOi, mi) else (mi (o + 2) 1, m_cpy mi (o + 2) (o + 1) 0 0 1438))) := by
  refine Ok.go [some (rf X o)] (by decide) (by simp [Value.category]) (Nat.le_of_ble_eq_true rfl) rfl ?_
  obtain ⟨k_o, ⟨r_o_now, k_o_now⟩, ⟨r_o_image, k_o_image⟩, ⟨r_o_aside, k_o_aside⟩, ⟨r_o_seen, k_o_seen⟩, ⟨r_o_unlike, k_o_unlike⟩, ⟨r_o_tape, k_o_tape⟩, ⟨r_o_keys, k_o_keys⟩, ⟨r_o_keyAt, k_o_keyAt⟩, ⟨r_o_code, k_o_code⟩, ⟨r_o_waits, k_o_waits⟩, ⟨r_o_tested, k_o_tested⟩, ⟨r_o_stack, k_o_stack⟩, ⟨r_o_facts, k_o_facts⟩, ⟨r_o_sorts, k_o_sorts⟩, ⟨r_o_sizes, k_o_sizes⟩, ⟨r_o_cells, k_o_cells⟩, ⟨r_o_holds, k_o_holds⟩, ⟨r_o_holdsA, k_o_holdsA⟩, ⟨r_o_holdsB, k_o_holdsB⟩, ⟨r_o_heldCells, k_o_heldCells⟩, ⟨r_o_moved, k_o_moved⟩, ⟨r_o_tells, k_o_tells⟩⟩ := id hM
  have e : m_cpy mi (o + 2) (o + 1) 0 0 1438 (o + 1) 1 = mi (o + 2) 1 := by simp [m_cpy]
  refine mw_aload_n dX7_back_0 rfl ?_
  refine mw_geti dX7_back_1 fl_X7_276 rfl (by assumption) ?_
  refine mw_if_ne (tgt := 11) dX7_back_4 (by decide) (fun h4 => ?_) (fun h4 => ?_)
  · skip
    refine mw_aload_n dX7_back_11 rfl ?_
    refine mw_getr dX7_back_12 fl_X7_13 rfl (by assumption) (by assumption) ?_
    refine mw_aload_n dX7_back_15 rfl ?_
    refine mw_getr dX7_back_16 fl_X7_9 rfl (by assumption) (by assumption) ?_
    refine mw_cSV (g := fX7_copyAll) dX7_back_19 ml_X7_173 mfX7_copyAll (ok_X7_copyAll k_o_image k_o_now (by omega)) rfl rfl (Nat.le_of_ble_eq_true rfl) ⟨by decide, by decide⟩ ⟨by decide, by decide⟩ ?_
    refine mw_aload_n dX7_back_22 rfl ?_
    refine mw_getr dX7_back_23 fl_X7_9 rfl (by assumption) (by assumption) ?_
    refine mw_iconst (v := 1) dX7_back_26 (by decide) ?_
    refine mw_ialdK (k := 1) dX7_back_27 (by assumption) (rfl) (by decide) (by decide) ?_
    rw [e]
    exact mw_iret dX7_back_28 rfl (by decide) (by decide) (by rw [if_neg h4]; exact ⟨rfl, rfl, rfl⟩)
  · skip
    refine mw_ldcw dX7_back_7 cn_X7_272 ?_
    exact mw_iret dX7_back_10 rfl (by decide) (by decide) (by rw [if_pos h4]; exact ⟨rfl, rfl, rfl⟩)
