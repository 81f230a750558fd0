/-! the model's deal -/
theorem dX7_deal_0 : decode fX7_deal.2.1 0 = .ok (.iload_n 1, 1) := by decide +kernel
theorem dX7_deal_1 : decode fX7_deal.2.1 1 = .ok (.iconst 1, 1) := by decide +kernel
theorem dX7_deal_2 : decode fX7_deal.2.1 2 = .ok (.bipush 8, 2) := by decide +kernel
theorem dX7_deal_4 : decode fX7_deal.2.1 4 = .ok (.invokestatic 78, 3) := by decide +kernel
theorem dX7_deal_7 : decode fX7_deal.2.1 7 = .ok (.ifCond .ne 6, 3) := by decide +kernel
theorem dX7_deal_10 : decode fX7_deal.2.1 10 = .ok (.ldc 127, 2) := by decide +kernel
theorem dX7_deal_12 : decode fX7_deal.2.1 12 = .ok (.ireturn, 1) := by decide +kernel
theorem dX7_deal_13 : decode fX7_deal.2.1 13 = .ok (.iconst 0, 1) := by decide +kernel
theorem dX7_deal_14 : decode fX7_deal.2.1 14 = .ok (.istore_n 2, 1) := by decide +kernel
theorem dX7_deal_15 : decode fX7_deal.2.1 15 = .ok (.iload_n 2, 1) := by decide +kernel
theorem dX7_deal_16 : decode fX7_deal.2.1 16 = .ok (.iload_n 1, 1) := by decide +kernel
theorem dX7_deal_17 : decode fX7_deal.2.1 17 = .ok (.if_icmp .ge 55, 3) := by decide +kernel
theorem dX7_deal_20 : decode fX7_deal.2.1 20 = .ok (.aload_n 0, 1) := by decide +kernel
theorem dX7_deal_21 : decode fX7_deal.2.1 21 = .ok (.getfield 9, 3) := by decide +kernel
theorem dX7_deal_24 : decode fX7_deal.2.1 24 = .ok (.iconst 1, 1) := by decide +kernel
theorem dX7_deal_25 : decode fX7_deal.2.1 25 = .ok (.iaload, 1) := by decide +kernel
theorem dX7_deal_26 : decode fX7_deal.2.1 26 = .ok (.bipush 8, 2) := by decide +kernel
theorem dX7_deal_28 : decode fX7_deal.2.1 28 = .ok (.if_icmp .ge 44, 3) := by decide +kernel
theorem dX7_deal_31 : decode fX7_deal.2.1 31 = .ok (.aload_n 0, 1) := by decide +kernel
theorem dX7_deal_32 : decode fX7_deal.2.1 32 = .ok (.invokevirtual 152, 3) := by decide +kernel
theorem dX7_deal_35 : decode fX7_deal.2.1 35 = .ok (.bipush 6, 2) := by decide +kernel
theorem dX7_deal_37 : decode fX7_deal.2.1 37 = .ok (.irem, 1) := by decide +kernel
theorem dX7_deal_38 : decode fX7_deal.2.1 38 = .ok (.istore_n 3, 1) := by decide +kernel
theorem dX7_deal_39 : decode fX7_deal.2.1 39 = .ok (.aload_n 0, 1) := by decide +kernel
theorem dX7_deal_40 : decode fX7_deal.2.1 40 = .ok (.invokevirtual 152, 3) := by decide +kernel
theorem dX7_deal_43 : decode fX7_deal.2.1 43 = .ok (.bipush 24, 2) := by decide +kernel
theorem dX7_deal_45 : decode fX7_deal.2.1 45 = .ok (.irem, 1) := by decide +kernel
theorem dX7_deal_46 : decode fX7_deal.2.1 46 = .ok (.istore 4, 2) := by decide +kernel
theorem dX7_deal_48 : decode fX7_deal.2.1 48 = .ok (.aload_n 0, 1) := by decide +kernel
theorem dX7_deal_49 : decode fX7_deal.2.1 49 = .ok (.iload_n 3, 1) := by decide +kernel
theorem dX7_deal_50 : decode fX7_deal.2.1 50 = .ok (.iload 4, 2) := by decide +kernel
theorem dX7_deal_52 : decode fX7_deal.2.1 52 = .ok (.iconst 1, 1) := by decide +kernel
theorem dX7_deal_53 : decode fX7_deal.2.1 53 = .ok (.aload_n 0, 1) := by decide +kernel
theorem dX7_deal_54 : decode fX7_deal.2.1 54 = .ok (.invokevirtual 152, 3) := by decide +kernel
theorem dX7_deal_57 : decode fX7_deal.2.1 57 = .ok (.bipush 12, 2) := by decide +kernel
theorem dX7_deal_59 : decode fX7_deal.2.1 59 = .ok (.irem, 1) := by decide +kernel
theorem dX7_deal_60 : decode fX7_deal.2.1 60 = .ok (.iadd, 1) := by decide +kernel
theorem dX7_deal_61 : decode fX7_deal.2.1 61 = .ok (.invokevirtual 129, 3) := by decide +kernel
theorem dX7_deal_64 : decode fX7_deal.2.1 64 = .ok (.istore 5, 2) := by decide +kernel
theorem dX7_deal_66 : decode fX7_deal.2.1 66 = .ok (.iinc 2 1, 3) := by decide +kernel
theorem dX7_deal_69 : decode fX7_deal.2.1 69 = .ok (.goto (-54), 3) := by decide +kernel
theorem dX7_deal_72 : decode fX7_deal.2.1 72 = .ok (.iload_n 2, 1) := by decide +kernel
theorem dX7_deal_73 : decode fX7_deal.2.1 73 = .ok (.ireturn, 1) := by decide +kernel
set_option maxRecDepth 100000 in
set_option maxHeartbeats 4000000 in
theorem ok_X7_deal {X : Xb} {S : Sg} {mi : Mem} {o n : Nat} {A : Nat → Int32} {v : Int32} (hM : MdA S o) (hn8 : n ≤ 8) (hA : mi (o + 1) = A) (hn : A 1 = nI n) : Ok 3 0 0 fX7_deal X [rf X o, .int v] S mi (PM S mi o (sDeal A n v)) := by
  refine Ok.go [some (rf X o), some (.int v), none, none, none, none] (by decide) (by simp [Value.category]) (Nat.le_of_ble_eq_true rfl) rfl ?_
  obtain ⟨k_o, ⟨r_o_now, k_o_now⟩, ⟨r_o_image, k_o_image⟩, ⟨r_o_aside, k_o_aside⟩, ⟨r_o_seen, k_o_seen⟩, ⟨r_o_unlike, k_o_unlike⟩, ⟨r_o_tape, k_o_tape⟩, ⟨r_o_keys, k_o_keys⟩, ⟨r_o_keyAt, k_o_keyAt⟩, ⟨r_o_code, k_o_code⟩, ⟨r_o_waits, k_o_waits⟩, ⟨r_o_tested, k_o_tested⟩, ⟨r_o_stack, k_o_stack⟩, ⟨r_o_facts, k_o_facts⟩, ⟨r_o_sorts, k_o_sorts⟩, ⟨r_o_sizes, k_o_sizes⟩, ⟨r_o_cells, k_o_cells⟩, ⟨r_o_holds, k_o_holds⟩, ⟨r_o_holdsA, k_o_holdsA⟩, ⟨r_o_holdsB, k_o_holdsB⟩, ⟨r_o_heldCells, k_o_heldCells⟩, ⟨r_o_moved, k_o_moved⟩, ⟨r_o_tells, k_o_tells⟩⟩ := id hM
  have z := FrM.rf o mi
  have go : ∀ q c, c = min q (8 - n) → 1 ≤ q → q ≤ 8 → v = nI q → MW X fX7_deal (rmOf 3 0 0) 0 0 15 [some (rf X o), some (.int (nI q)), some (.int (nI 0)), none, none, none] [] S mi (mQ X 0 0 (PM S mi o (sDeal A n v))) := by
    intro q c hc h1 h8 hv
    have ecl : v.toNatClampNeg = q := by rw [hv, nI_clamp (by omega)]
    have hvr : 1 ≤ v ∧ v ≤ 8 := by rw [hv]; exact ⟨nI_le (a := 1) h1 (by omega), nI_le (b := 8) h8 (by decide)⟩
    have lp := mw_dn (P := fun k => ∀ m, m (o + 1) = dealTo A n k → FrM o mi m → MW X fX7_deal (rmOf 3 0 0) 0 0 15 [some (rf X o), some (.int (nI q)), some (.int (nI k)), none, none, none] [] S m (mQ X 0 0 (PM S mi o (sDeal A n v)))) c (by
      intro m hm hF
      have e1 : m (o + 1) 1 = nI (n + c) := by rw [hm]; exact dealTo_1 hn c
      refine mw_iload_n dX7_deal_15 rfl ?_
      refine mw_iload_n dX7_deal_16 rfl ?_
      refine mw_icmp_ge (tgt := 72) dX7_deal_17 (by decide) (fun h17 => ?_) (fun h17 => ?_)
      · skip
        refine mw_iload_n dX7_deal_72 rfl ?_
        exact mw_iret dX7_deal_73 rfl (by decide) (by decide) (by rw [sDeal, if_pos hvr, ecl, ← hc]; exact ⟨rfl, rfl, hm, hF⟩)
      · skip
        refine mw_aload_n dX7_deal_20 rfl ?_
        refine mw_getr dX7_deal_21 fl_X7_9 rfl (by assumption) (by assumption) ?_
        refine mw_iconst (v := 1) dX7_deal_24 (by decide) ?_
        refine mw_ialdK (k := 1) dX7_deal_25 (by assumption) (rfl) (by decide) (by decide) ?_
        rw [e1]
        refine mw_bipush (v := 8) dX7_deal_26 (by decide) ?_
        refine mw_icmp_ge (tgt := 72) dX7_deal_28 (by decide) (fun h28 => ?_) (fun h28 => ?_)
        · skip
          refine mw_iload_n dX7_deal_72 rfl ?_
          exact mw_iret dX7_deal_73 rfl (by decide) (by decide) (by rw [sDeal, if_pos hvr, ecl, ← hc]; exact ⟨rfl, rfl, hm, hF⟩)
        · skip
          rcases Nat.lt_or_ge c q with g | g
          · exact absurd (nI_le (a := 8) (b := n + c) (by omega) (by omega)) h28
          · exact absurd (nI_le g (by omega)) h17) (fun k hk ih => by
      intro m hm hF
      have e1 : m (o + 1) 1 = nI (n + k) := by rw [hm]; exact dealTo_1 hn k
      have b1 := dealTo_1 hn k
      have q1 : dealTo A n (k + 1) = drawF (dealTo A n k) (n + k) := rfl
      rw [q1] at ih
      generalize dealTo A n k = B at hm b1 ih
      refine mw_iload_n dX7_deal_15 rfl ?_
      refine mw_iload_n dX7_deal_16 rfl ?_
      refine mw_icmp_ge (tgt := 72) dX7_deal_17 (by decide) (fun h17 => ?_) (fun h17 => ?_)
      · skip
        first
          | exact absurd h17 (nI_ge (show k < q by omega) (by omega))
          | exact absurd h28 (nI_ge (show n + k < 8 by omega) (by decide))
          | fail "stop"
      · skip
        refine mw_aload_n dX7_deal_20 rfl ?_
        refine mw_getr dX7_deal_21 fl_X7_9 rfl (by assumption) (by assumption) ?_
        refine mw_iconst (v := 1) dX7_deal_24 (by decide) ?_
        refine mw_ialdK (k := 1) dX7_deal_25 (by assumption) (rfl) (by decide) (by decide) ?_
        rw [e1]
        refine mw_bipush (v := 8) dX7_deal_26 (by decide) ?_
        refine mw_icmp_ge (tgt := 72) dX7_deal_28 (by decide) (fun h28 => ?_) (fun h28 => ?_)
        · skip
          first
            | exact absurd h17 (nI_ge (show k < q by omega) (by omega))
            | exact absurd h28 (nI_ge (show n + k < 8 by omega) (by decide))
            | fail "stop"
        · skip
          refine mw_aload_n dX7_deal_31 rfl ?_
          refine mw_cVI (g := fX7_draw) dX7_deal_32 ml_X7_152 mfX7_draw (ok_X7_draw hM) (by assumption) rfl rfl (Nat.le_of_ble_eq_true rfl) ⟨by decide, by decide⟩ ⟨by decide, by decide⟩ ?_
          rw [hm]
          generalize hm1 : m_up m (o + 1) 0 _ = m1
          have r1 : m1 (o + 1) = upd B 0 (nz1 (B 0)) := by rw [← hm1, m_up_row, hm]
          have f1 : FrM o mi m1 := by rw [← hm1]; exact hF.up
          refine mw_bipush (v := 6) dX7_deal_35 (by decide) ?_
          refine mw_irem dX7_deal_37 (by decide) ?_
          refine mw_istN 3 dX7_deal_38 rfl (by decide) ?_
          refine mw_aload_n dX7_deal_39 rfl ?_
          refine mw_cVI (g := fX7_draw) dX7_deal_40 ml_X7_152 mfX7_draw (ok_X7_draw hM) (by assumption) rfl rfl (Nat.le_of_ble_eq_true rfl) ⟨by decide, by decide⟩ ⟨by decide, by decide⟩ ?_
          rw [r1, upd_at]
          generalize hm2 : m_up m1 (o + 1) 0 _ = m2
          have r2 : m2 (o + 1) = upd B 0 (nz1 (nz1 (B 0))) := by rw [← hm2, m_up_row, r1, upd_upd]
          have f2 : FrM o mi m2 := by rw [← hm2]; exact f1.up
          refine mw_bipush (v := 24) dX7_deal_43 (by decide) ?_
          refine mw_irem dX7_deal_45 (by decide) ?_
          refine mw_istore dX7_deal_46 (by decide) ?_
          refine mw_aload_n dX7_deal_48 rfl ?_
          refine mw_iload_n dX7_deal_49 rfl ?_
          refine mw_iload dX7_deal_50 rfl ?_
          refine mw_iconst (v := 1) dX7_deal_52 (by decide) ?_
          refine mw_aload_n dX7_deal_53 rfl ?_
          refine mw_cVI (g := fX7_draw) dX7_deal_54 ml_X7_152 mfX7_draw (ok_X7_draw hM) (by assumption) rfl rfl (Nat.le_of_ble_eq_true rfl) ⟨by decide, by decide⟩ ⟨by decide, by decide⟩ ?_
          rw [r2, upd_at]
          generalize hm3 : m_up m2 (o + 1) 0 _ = m3
          have r3 : m3 (o + 1) = upd B 0 (nz1 (nz1 (nz1 (B 0)))) := by rw [← hm3, m_up_row, r2, upd_upd]
          have f3 : FrM o mi m3 := by rw [← hm3]; exact f2.up
          refine mw_bipush (v := 12) dX7_deal_57 (by decide) ?_
          refine mw_irem dX7_deal_59 (by decide) ?_
          refine mw_iadd dX7_deal_60 ?_
          rw [Int32.add_comm 1]
          refine mw_callV (g := fX7_comes) dX7_deal_61 ml_X7_129 mfX7_comes (ok_X7_comes (n := n + k) hM (by omega) r3 (by rw [upd_ne (by decide)]; exact b1)) (by assumption) rfl rfl (Nat.le_of_ble_eq_true rfl) ⟨by decide, by decide⟩ ⟨by decide, by decide⟩ (fun r S2 mi2 hp => ?_)
          obtain ⟨rfl, e2, e4, e5⟩ := hp
          rw [e2]
          refine mw_istore dX7_deal_64 (by decide) ?_
          refine mw_iincK (k := k) dX7_deal_66 rfl rfl (by decide) ?_
          refine mw_goto (tgt := 15) dX7_deal_69 (by decide) ?_
          exact MW.sub (by simp [lsub]) (ih _ e4 (f3.tr e5)))
    exact lp mi hA z
  refine mw_iload_n dX7_deal_0 rfl ?_
  refine mw_iconst (v := 1) dX7_deal_1 (by decide) ?_
  refine mw_bipush (v := 8) dX7_deal_2 (by decide) ?_
  refine mw_cSI (g := fX7_in) dX7_deal_4 ml_X7_78 mfX7_in (ok_X7_in) rfl rfl (Nat.le_of_ble_eq_true rfl) ⟨by decide, by decide⟩ ⟨by decide, by decide⟩ ?_
  refine mw_if_neB (tgt := 13) dX7_deal_7 (by decide) (fun h7 => ?_) (fun h7 => ?_)
  · skip
    refine mw_iconst (v := 0) dX7_deal_13 (by decide) ?_
    refine mw_istN 2 dX7_deal_14 rfl (by decide) ?_
    obtain ⟨q, q1, q8, hv⟩ := in18 h7
    have gg := go q _ rfl q1 q8 hv
    rw [← hv] at gg
    exact MW.sub (by simp [lsub, nI_0]) gg
  · skip
    refine mw_ldc dX7_deal_10 cn_X7_127 ?_
    exact mw_iret dX7_deal_12 rfl (by decide) (by decide) (by rw [sDeal, if_neg h7]; exact ⟨rfl, rfl, hA, z⟩)
