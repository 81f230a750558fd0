/-! Town: sums over its attics -/
abbrev cSeesA (mi : Mem) (t i : Nat) : Int32 := cSees (mi (t + 1)) (mi t 10) (mi t 4) (mi (t + 9 + i) 0) (mi (t + 9 + i) 1) (mi (t + 9 + i) 2)
theorem dX5_owedByAll_0 : decode fX5_owedByAll.2.1 0 = .ok (.iconst 0, 1) := by decide +kernel
theorem dX5_owedByAll_1 : decode fX5_owedByAll.2.1 1 = .ok (.istore_n 1, 1) := by decide +kernel
theorem dX5_owedByAll_2 : decode fX5_owedByAll.2.1 2 = .ok (.iconst 0, 1) := by decide +kernel
theorem dX5_owedByAll_3 : decode fX5_owedByAll.2.1 3 = .ok (.istore_n 2, 1) := by decide +kernel
theorem dX5_owedByAll_4 : decode fX5_owedByAll.2.1 4 = .ok (.iload_n 2, 1) := by decide +kernel
theorem dX5_owedByAll_5 : decode fX5_owedByAll.2.1 5 = .ok (.aload_n 0, 1) := by decide +kernel
theorem dX5_owedByAll_6 : decode fX5_owedByAll.2.1 6 = .ok (.getfield 59, 3) := by decide +kernel
theorem dX5_owedByAll_9 : decode fX5_owedByAll.2.1 9 = .ok (.if_icmp .ge 21, 3) := by decide +kernel
theorem dX5_owedByAll_12 : decode fX5_owedByAll.2.1 12 = .ok (.iload_n 1, 1) := by decide +kernel
theorem dX5_owedByAll_13 : decode fX5_owedByAll.2.1 13 = .ok (.aload_n 0, 1) := by decide +kernel
theorem dX5_owedByAll_14 : decode fX5_owedByAll.2.1 14 = .ok (.getfield 20, 3) := by decide +kernel
theorem dX5_owedByAll_17 : decode fX5_owedByAll.2.1 17 = .ok (.iload_n 2, 1) := by decide +kernel
theorem dX5_owedByAll_18 : decode fX5_owedByAll.2.1 18 = .ok (.aaload, 1) := by decide +kernel
theorem dX5_owedByAll_19 : decode fX5_owedByAll.2.1 19 = .ok (.getfield 175, 3) := by decide +kernel
theorem dX5_owedByAll_22 : decode fX5_owedByAll.2.1 22 = .ok (.iadd, 1) := by decide +kernel
theorem dX5_owedByAll_23 : decode fX5_owedByAll.2.1 23 = .ok (.istore_n 1, 1) := by decide +kernel
theorem dX5_owedByAll_24 : decode fX5_owedByAll.2.1 24 = .ok (.iinc 2 1, 3) := by decide +kernel
theorem dX5_owedByAll_27 : decode fX5_owedByAll.2.1 27 = .ok (.goto (-23), 3) := by decide +kernel
theorem dX5_owedByAll_30 : decode fX5_owedByAll.2.1 30 = .ok (.iload_n 1, 1) := by decide +kernel
theorem dX5_owedByAll_31 : decode fX5_owedByAll.2.1 31 = .ok (.ireturn, 1) := by decide +kernel
set_option maxRecDepth 100000 in
set_option maxHeartbeats 4000000 in
theorem ok_X5_owedByAll {X : Xb} {S : Sg} {mi : Mem} {t n : Nat} (hT : TwA S t) (hn : mi t 3 = nI n) (hn8 : n ≤ 8) : OkI 0 fX5_owedByAll X [rf X t] S mi (fld (fun s i => s + mi (t + 9 + i) 4) 0 n) mi := by
  refine Ok.go [some (rf X t), none, none] (by decide) (by simp [Value.category]) (Nat.le_of_ble_eq_true rfl) rfl ?_
  obtain ⟨k_t, ⟨r_t_home, k_t_home⟩, ⟨r_t_price, k_t_price⟩, ⟨r_t_attics, k_t_attics⟩, ⟨r_t_texts, k_t_texts⟩, ⟨r_t_counting, k_t_counting⟩, ⟨r_t_names, k_t_names⟩, ⟨r_t_pile, k_t_pile⟩, ⟨r_t_views, k_t_views⟩, a_t⟩ := id hT
  have lp := mw_dn (P := fun k => MW X fX5_owedByAll (rmOf 0 0 0) 0 0 4 [some (rf X t), some (.int (fld (fun s i => s + mi (t + 9 + i) 4) 0 k)), some (.int (nI k))] [] S mi (mQ X 0 0 (pI (fld (fun s i => s + mi (t + 9 + i) 4) 0 n) S mi))) n (by
    refine mw_iload_n dX5_owedByAll_4 rfl ?_
    refine mw_aload_n dX5_owedByAll_5 rfl ?_
    refine mw_geti dX5_owedByAll_6 fl_X5_59 rfl (by assumption) ?_
    refine mw_icmp_ge (tgt := 30) dX5_owedByAll_9 (by decide) (fun h9 => ?_) (fun h9 => ?_)
    · skip
      refine mw_iload_n dX5_owedByAll_30 rfl ?_
      exact mw_iret dX5_owedByAll_31 rfl (by decide) (by decide) (⟨rfl, rfl, rfl⟩)
    · skip
      exact absurd (by rw [hn]; exact Int32.le_refl _) h9) (fun k hk ih => by
    refine mw_iload_n dX5_owedByAll_4 rfl ?_
    refine mw_aload_n dX5_owedByAll_5 rfl ?_
    refine mw_geti dX5_owedByAll_6 fl_X5_59 rfl (by assumption) ?_
    refine mw_icmp_ge (tgt := 30) dX5_owedByAll_9 (by decide) (fun h9 => ?_) (fun h9 => ?_)
    · skip
      exact absurd h9 (by rw [hn]; exact nI_ge hk (by omega))
    · skip
      refine mw_iload_n dX5_owedByAll_12 rfl ?_
      refine mw_aload_n dX5_owedByAll_13 rfl ?_
      refine mw_getr dX5_owedByAll_14 fl_X5_20 rfl (by assumption) (by assumption) ?_
      refine mw_iload_n dX5_owedByAll_17 rfl ?_
      refine mw_aldK (k := k) dX5_owedByAll_18 (by assumption) (by decide) (rfl) (by omega) (by decide) ((a_t k (by omega)).1) ?_
      refine mw_geti dX5_owedByAll_19 fl_X5_175 rfl ((a_t k (by omega)).2) ?_
      refine mw_iadd dX5_owedByAll_22 ?_
      refine mw_istN 1 dX5_owedByAll_23 rfl (by decide) ?_
      refine mw_iincK (k := k) dX5_owedByAll_24 rfl rfl (by decide) ?_
      refine mw_goto (tgt := 4) dX5_owedByAll_27 (by decide) ?_
      exact MW.back ih (by simp [lsub, fld]))
  refine mw_iconst (v := 0) dX5_owedByAll_0 (by decide) ?_
  refine mw_istN 1 dX5_owedByAll_1 rfl (by decide) ?_
  refine mw_iconst (v := 0) dX5_owedByAll_2 (by decide) ?_
  refine mw_istN 2 dX5_owedByAll_3 rfl (by decide) ?_
  exact MW.back lp (by simp [lsub, fld, nI_0])
theorem dX5_coinOfAll_0 : decode fX5_coinOfAll.2.1 0 = .ok (.iconst 0, 1) := by decide +kernel
theorem dX5_coinOfAll_1 : decode fX5_coinOfAll.2.1 1 = .ok (.istore_n 1, 1) := by decide +kernel
theorem dX5_coinOfAll_2 : decode fX5_coinOfAll.2.1 2 = .ok (.iconst 0, 1) := by decide +kernel
theorem dX5_coinOfAll_3 : decode fX5_coinOfAll.2.1 3 = .ok (.istore_n 2, 1) := by decide +kernel
theorem dX5_coinOfAll_4 : decode fX5_coinOfAll.2.1 4 = .ok (.iload_n 2, 1) := by decide +kernel
theorem dX5_coinOfAll_5 : decode fX5_coinOfAll.2.1 5 = .ok (.aload_n 0, 1) := by decide +kernel
theorem dX5_coinOfAll_6 : decode fX5_coinOfAll.2.1 6 = .ok (.getfield 59, 3) := by decide +kernel
theorem dX5_coinOfAll_9 : decode fX5_coinOfAll.2.1 9 = .ok (.if_icmp .ge 21, 3) := by decide +kernel
theorem dX5_coinOfAll_12 : decode fX5_coinOfAll.2.1 12 = .ok (.iload_n 1, 1) := by decide +kernel
theorem dX5_coinOfAll_13 : decode fX5_coinOfAll.2.1 13 = .ok (.aload_n 0, 1) := by decide +kernel
theorem dX5_coinOfAll_14 : decode fX5_coinOfAll.2.1 14 = .ok (.getfield 20, 3) := by decide +kernel
theorem dX5_coinOfAll_17 : decode fX5_coinOfAll.2.1 17 = .ok (.iload_n 2, 1) := by decide +kernel
theorem dX5_coinOfAll_18 : decode fX5_coinOfAll.2.1 18 = .ok (.aaload, 1) := by decide +kernel
theorem dX5_coinOfAll_19 : decode fX5_coinOfAll.2.1 19 = .ok (.getfield 178, 3) := by decide +kernel
theorem dX5_coinOfAll_22 : decode fX5_coinOfAll.2.1 22 = .ok (.iadd, 1) := by decide +kernel
theorem dX5_coinOfAll_23 : decode fX5_coinOfAll.2.1 23 = .ok (.istore_n 1, 1) := by decide +kernel
theorem dX5_coinOfAll_24 : decode fX5_coinOfAll.2.1 24 = .ok (.iinc 2 1, 3) := by decide +kernel
theorem dX5_coinOfAll_27 : decode fX5_coinOfAll.2.1 27 = .ok (.goto (-23), 3) := by decide +kernel
theorem dX5_coinOfAll_30 : decode fX5_coinOfAll.2.1 30 = .ok (.iload_n 1, 1) := by decide +kernel
theorem dX5_coinOfAll_31 : decode fX5_coinOfAll.2.1 31 = .ok (.ireturn, 1) := by decide +kernel
set_option maxRecDepth 100000 in
set_option maxHeartbeats 4000000 in
theorem ok_X5_coinOfAll {X : Xb} {S : Sg} {mi : Mem} {t n : Nat} (hT : TwA S t) (hn : mi t 3 = nI n) (hn8 : n ≤ 8) : OkI 0 fX5_coinOfAll X [rf X t] S mi (fld (fun s i => s + mi (t + 9 + i) 3) 0 n) mi := by
  refine Ok.go [some (rf X t), none, none] (by decide) (by simp [Value.category]) (Nat.le_of_ble_eq_true rfl) rfl ?_
  obtain ⟨k_t, ⟨r_t_home, k_t_home⟩, ⟨r_t_price, k_t_price⟩, ⟨r_t_attics, k_t_attics⟩, ⟨r_t_texts, k_t_texts⟩, ⟨r_t_counting, k_t_counting⟩, ⟨r_t_names, k_t_names⟩, ⟨r_t_pile, k_t_pile⟩, ⟨r_t_views, k_t_views⟩, a_t⟩ := id hT
  have lp := mw_dn (P := fun k => MW X fX5_coinOfAll (rmOf 0 0 0) 0 0 4 [some (rf X t), some (.int (fld (fun s i => s + mi (t + 9 + i) 3) 0 k)), some (.int (nI k))] [] S mi (mQ X 0 0 (pI (fld (fun s i => s + mi (t + 9 + i) 3) 0 n) S mi))) n (by
    refine mw_iload_n dX5_coinOfAll_4 rfl ?_
    refine mw_aload_n dX5_coinOfAll_5 rfl ?_
    refine mw_geti dX5_coinOfAll_6 fl_X5_59 rfl (by assumption) ?_
    refine mw_icmp_ge (tgt := 30) dX5_coinOfAll_9 (by decide) (fun h9 => ?_) (fun h9 => ?_)
    · skip
      refine mw_iload_n dX5_coinOfAll_30 rfl ?_
      exact mw_iret dX5_coinOfAll_31 rfl (by decide) (by decide) (⟨rfl, rfl, rfl⟩)
    · skip
      exact absurd (by rw [hn]; exact Int32.le_refl _) h9) (fun k hk ih => by
    refine mw_iload_n dX5_coinOfAll_4 rfl ?_
    refine mw_aload_n dX5_coinOfAll_5 rfl ?_
    refine mw_geti dX5_coinOfAll_6 fl_X5_59 rfl (by assumption) ?_
    refine mw_icmp_ge (tgt := 30) dX5_coinOfAll_9 (by decide) (fun h9 => ?_) (fun h9 => ?_)
    · skip
      exact absurd h9 (by rw [hn]; exact nI_ge hk (by omega))
    · skip
      refine mw_iload_n dX5_coinOfAll_12 rfl ?_
      refine mw_aload_n dX5_coinOfAll_13 rfl ?_
      refine mw_getr dX5_coinOfAll_14 fl_X5_20 rfl (by assumption) (by assumption) ?_
      refine mw_iload_n dX5_coinOfAll_17 rfl ?_
      refine mw_aldK (k := k) dX5_coinOfAll_18 (by assumption) (by decide) (rfl) (by omega) (by decide) ((a_t k (by omega)).1) ?_
      refine mw_geti dX5_coinOfAll_19 fl_X5_178 rfl ((a_t k (by omega)).2) ?_
      refine mw_iadd dX5_coinOfAll_22 ?_
      refine mw_istN 1 dX5_coinOfAll_23 rfl (by decide) ?_
      refine mw_iincK (k := k) dX5_coinOfAll_24 rfl rfl (by decide) ?_
      refine mw_goto (tgt := 4) dX5_coinOfAll_27 (by decide) ?_
      exact MW.back ih (by simp [lsub, fld]))
  refine mw_iconst (v := 0) dX5_coinOfAll_0 (by decide) ?_
  refine mw_istN 1 dX5_coinOfAll_1 rfl (by decide) ?_
  refine mw_iconst (v := 0) dX5_coinOfAll_2 (by decide) ?_
  refine mw_istN 2 dX5_coinOfAll_3 rfl (by decide) ?_
  exact MW.back lp (by simp [lsub, fld, nI_0])
theorem dX5_watchersOf_0 : decode fX5_watchersOf.2.1 0 = .ok (.iconst 0, 1) := by decide +kernel
theorem dX5_watchersOf_1 : decode fX5_watchersOf.2.1 1 = .ok (.istore_n 2, 1) := by decide +kernel
theorem dX5_watchersOf_2 : decode fX5_watchersOf.2.1 2 = .ok (.iconst 0, 1) := by decide +kernel
theorem dX5_watchersOf_3 : decode fX5_watchersOf.2.1 3 = .ok (.istore_n 3, 1) := by decide +kernel
theorem dX5_watchersOf_4 : decode fX5_watchersOf.2.1 4 = .ok (.iload_n 3, 1) := by decide +kernel
theorem dX5_watchersOf_5 : decode fX5_watchersOf.2.1 5 = .ok (.aload_n 0, 1) := by decide +kernel
theorem dX5_watchersOf_6 : decode fX5_watchersOf.2.1 6 = .ok (.getfield 59, 3) := by decide +kernel
theorem dX5_watchersOf_9 : decode fX5_watchersOf.2.1 9 = .ok (.if_icmp .ge 28, 3) := by decide +kernel
theorem dX5_watchersOf_12 : decode fX5_watchersOf.2.1 12 = .ok (.iload_n 2, 1) := by decide +kernel
theorem dX5_watchersOf_13 : decode fX5_watchersOf.2.1 13 = .ok (.aload_n 0, 1) := by decide +kernel
theorem dX5_watchersOf_14 : decode fX5_watchersOf.2.1 14 = .ok (.aload_n 0, 1) := by decide +kernel
theorem dX5_watchersOf_15 : decode fX5_watchersOf.2.1 15 = .ok (.getfield 20, 3) := by decide +kernel
theorem dX5_watchersOf_18 : decode fX5_watchersOf.2.1 18 = .ok (.iload_n 3, 1) := by decide +kernel
theorem dX5_watchersOf_19 : decode fX5_watchersOf.2.1 19 = .ok (.aaload, 1) := by decide +kernel
theorem dX5_watchersOf_20 : decode fX5_watchersOf.2.1 20 = .ok (.invokevirtual 142, 3) := by decide +kernel
theorem dX5_watchersOf_23 : decode fX5_watchersOf.2.1 23 = .ok (.iload_n 1, 1) := by decide +kernel
theorem dX5_watchersOf_24 : decode fX5_watchersOf.2.1 24 = .ok (.ishr, 1) := by decide +kernel
theorem dX5_watchersOf_25 : decode fX5_watchersOf.2.1 25 = .ok (.iconst 1, 1) := by decide +kernel
theorem dX5_watchersOf_26 : decode fX5_watchersOf.2.1 26 = .ok (.iand, 1) := by decide +kernel
theorem dX5_watchersOf_27 : decode fX5_watchersOf.2.1 27 = .ok (.iload_n 3, 1) := by decide +kernel
theorem dX5_watchersOf_28 : decode fX5_watchersOf.2.1 28 = .ok (.ishl, 1) := by decide +kernel
theorem dX5_watchersOf_29 : decode fX5_watchersOf.2.1 29 = .ok (.ior, 1) := by decide +kernel
theorem dX5_watchersOf_30 : decode fX5_watchersOf.2.1 30 = .ok (.istore_n 2, 1) := by decide +kernel
theorem dX5_watchersOf_31 : decode fX5_watchersOf.2.1 31 = .ok (.iinc 3 1, 3) := by decide +kernel
theorem dX5_watchersOf_34 : decode fX5_watchersOf.2.1 34 = .ok (.goto (-30), 3) := by decide +kernel
theorem dX5_watchersOf_37 : decode fX5_watchersOf.2.1 37 = .ok (.iload_n 2, 1) := by decide +kernel
theorem dX5_watchersOf_38 : decode fX5_watchersOf.2.1 38 = .ok (.ireturn, 1) := by decide +kernel
set_option maxRecDepth 100000 in
set_option maxHeartbeats 4000000 in
theorem ok_X5_watchersOf {X : Xb} {S : Sg} {mi : Mem} {t n : Nat} {j : Int32} (hT : TwA S t) (hn : mi t 3 = nI n) (hn8 : n ≤ 8) : OkI 3 fX5_watchersOf X [rf X t, .int j] S mi (fld (fun s i => s ||| ((cSeesA mi t i >>> (j &&& 31) &&& 1) <<< (nI i &&& 31))) 0 n) mi := by
  refine Ok.go [some (rf X t), some (.int j), none, none] (by decide) (by simp [Value.category]) (Nat.le_of_ble_eq_true rfl) rfl ?_
  obtain ⟨k_t, ⟨r_t_home, k_t_home⟩, ⟨r_t_price, k_t_price⟩, ⟨r_t_attics, k_t_attics⟩, ⟨r_t_texts, k_t_texts⟩, ⟨r_t_counting, k_t_counting⟩, ⟨r_t_names, k_t_names⟩, ⟨r_t_pile, k_t_pile⟩, ⟨r_t_views, k_t_views⟩, a_t⟩ := id hT
  have lp := mw_dn (P := fun k => MW X fX5_watchersOf (rmOf 3 0 0) 0 0 4 [some (rf X t), some (.int j), some (.int (fld (fun s i => s ||| ((cSeesA mi t i >>> (j &&& 31) &&& 1) <<< (nI i &&& 31))) 0 k)), some (.int (nI k))] [] S mi (mQ X 0 0 (pI (fld (fun s i => s ||| ((cSeesA mi t i >>> (j &&& 31) &&& 1) <<< (nI i &&& 31))) 0 n) S mi))) n (by
    refine mw_iload_n dX5_watchersOf_4 rfl ?_
    refine mw_aload_n dX5_watchersOf_5 rfl ?_
    refine mw_geti dX5_watchersOf_6 fl_X5_59 rfl (by assumption) ?_
    refine mw_icmp_ge (tgt := 37) dX5_watchersOf_9 (by decide) (fun h9 => ?_) (fun h9 => ?_)
    · skip
      refine mw_iload_n dX5_watchersOf_37 rfl ?_
      exact mw_iret dX5_watchersOf_38 rfl (by decide) (by decide) (⟨rfl, rfl, rfl⟩)
    · skip
      exact absurd (by rw [hn]; exact Int32.le_refl _) h9) (fun k hk ih => by
    refine mw_iload_n dX5_watchersOf_4 rfl ?_
    refine mw_aload_n dX5_watchersOf_5 rfl ?_
    refine mw_geti dX5_watchersOf_6 fl_X5_59 rfl (by assumption) ?_
    refine mw_icmp_ge (tgt := 37) dX5_watchersOf_9 (by decide) (fun h9 => ?_) (fun h9 => ?_)
    · skip
      exact absurd h9 (by rw [hn]; exact nI_ge hk (by omega))
    · skip
      refine mw_iload_n dX5_watchersOf_12 rfl ?_
      refine mw_aload_n dX5_watchersOf_13 rfl ?_
      refine mw_aload_n dX5_watchersOf_14 rfl ?_
      refine mw_getr dX5_watchersOf_15 fl_X5_20 rfl (by assumption) (by assumption) ?_
      refine mw_iload_n dX5_watchersOf_18 rfl ?_
      refine mw_aldK (k := k) dX5_watchersOf_19 (by assumption) (by decide) (rfl) (by omega) (by decide) ((a_t k (by omega)).1) ?_
      refine mw_cVI (g := fX5_seenBy) dX5_watchersOf_20 ml_X5_142 mfX5_seenBy (ok_X5_seenBy hT (a_t k (by omega)).2) (by assumption) rfl rfl (Nat.le_of_ble_eq_true rfl) ⟨by decide, by decide⟩ ⟨by decide, by decide⟩ ?_
      refine mw_iload_n dX5_watchersOf_23 rfl ?_
      refine mw_ishr dX5_watchersOf_24 ?_
      refine mw_iconst (v := 1) dX5_watchersOf_25 (by decide) ?_
      refine mw_iand dX5_watchersOf_26 ?_
      refine mw_iload_n dX5_watchersOf_27 rfl ?_
      refine mw_ishl dX5_watchersOf_28 ?_
      refine mw_ior dX5_watchersOf_29 ?_
      refine mw_istN 2 dX5_watchersOf_30 rfl (by decide) ?_
      refine mw_iincK (k := k) dX5_watchersOf_31 rfl rfl (by decide) ?_
      refine mw_goto (tgt := 4) dX5_watchersOf_34 (by decide) ?_
      exact MW.back ih (by simp [lsub, fld]))
  refine mw_iconst (v := 0) dX5_watchersOf_0 (by decide) ?_
  refine mw_istN 2 dX5_watchersOf_1 rfl (by decide) ?_
  refine mw_iconst (v := 0) dX5_watchersOf_2 (by decide) ?_
  refine mw_istN 3 dX5_watchersOf_3 rfl (by decide) ?_
  exact MW.back lp (by simp [lsub, fld, nI_0])
theorem dX5_dark_0 : decode fX5_dark.2.1 0 = .ok (.iconst 0, 1) := by decide +kernel
theorem dX5_dark_1 : decode fX5_dark.2.1 1 = .ok (.istore_n 1, 1) := by decide +kernel
theorem dX5_dark_2 : decode fX5_dark.2.1 2 = .ok (.iconst 0, 1) := by decide +kernel
theorem dX5_dark_3 : decode fX5_dark.2.1 3 = .ok (.istore_n 2, 1) := by decide +kernel
theorem dX5_dark_4 : decode fX5_dark.2.1 4 = .ok (.iload_n 2, 1) := by decide +kernel
theorem dX5_dark_5 : decode fX5_dark.2.1 5 = .ok (.aload_n 0, 1) := by decide +kernel
theorem dX5_dark_6 : decode fX5_dark.2.1 6 = .ok (.getfield 59, 3) := by decide +kernel
theorem dX5_dark_9 : decode fX5_dark.2.1 9 = .ok (.if_icmp .ge 22, 3) := by decide +kernel
theorem dX5_dark_12 : decode fX5_dark.2.1 12 = .ok (.iload_n 1, 1) := by decide +kernel
theorem dX5_dark_13 : decode fX5_dark.2.1 13 = .ok (.aload_n 0, 1) := by decide +kernel
theorem dX5_dark_14 : decode fX5_dark.2.1 14 = .ok (.aload_n 0, 1) := by decide +kernel
theorem dX5_dark_15 : decode fX5_dark.2.1 15 = .ok (.getfield 20, 3) := by decide +kernel
theorem dX5_dark_18 : decode fX5_dark.2.1 18 = .ok (.iload_n 2, 1) := by decide +kernel
theorem dX5_dark_19 : decode fX5_dark.2.1 19 = .ok (.aaload, 1) := by decide +kernel
theorem dX5_dark_20 : decode fX5_dark.2.1 20 = .ok (.invokevirtual 142, 3) := by decide +kernel
theorem dX5_dark_23 : decode fX5_dark.2.1 23 = .ok (.ior, 1) := by decide +kernel
theorem dX5_dark_24 : decode fX5_dark.2.1 24 = .ok (.istore_n 1, 1) := by decide +kernel
theorem dX5_dark_25 : decode fX5_dark.2.1 25 = .ok (.iinc 2 1, 3) := by decide +kernel
theorem dX5_dark_28 : decode fX5_dark.2.1 28 = .ok (.goto (-24), 3) := by decide +kernel
theorem dX5_dark_31 : decode fX5_dark.2.1 31 = .ok (.sipush 255, 3) := by decide +kernel
theorem dX5_dark_34 : decode fX5_dark.2.1 34 = .ok (.iload_n 1, 1) := by decide +kernel
theorem dX5_dark_35 : decode fX5_dark.2.1 35 = .ok (.iconst (-1), 1) := by decide +kernel
theorem dX5_dark_36 : decode fX5_dark.2.1 36 = .ok (.ixor, 1) := by decide +kernel
theorem dX5_dark_37 : decode fX5_dark.2.1 37 = .ok (.iand, 1) := by decide +kernel
theorem dX5_dark_38 : decode fX5_dark.2.1 38 = .ok (.ireturn, 1) := by decide +kernel
set_option maxRecDepth 100000 in
set_option maxHeartbeats 4000000 in
theorem ok_X5_dark {X : Xb} {S : Sg} {mi : Mem} {t n : Nat} (hT : TwA S t) (hn : mi t 3 = nI n) (hn8 : n ≤ 8) : OkI 3 fX5_dark X [rf X t] S mi (255 &&& (fld (fun s i => s ||| cSeesA mi t i) 0 n ^^^ (-1))) mi := by
  refine Ok.go [some (rf X t), none, none] (by decide) (by simp [Value.category]) (Nat.le_of_ble_eq_true rfl) rfl ?_
  obtain ⟨k_t, ⟨r_t_home, k_t_home⟩, ⟨r_t_price, k_t_price⟩, ⟨r_t_attics, k_t_attics⟩, ⟨r_t_texts, k_t_texts⟩, ⟨r_t_counting, k_t_counting⟩, ⟨r_t_names, k_t_names⟩, ⟨r_t_pile, k_t_pile⟩, ⟨r_t_views, k_t_views⟩, a_t⟩ := id hT
  have lp := mw_dn (P := fun k => MW X fX5_dark (rmOf 3 0 0) 0 0 4 [some (rf X t), some (.int (fld (fun s i => s ||| cSeesA mi t i) 0 k)), some (.int (nI k))] [] S mi (mQ X 0 0 (pI (255 &&& (fld (fun s i => s ||| cSeesA mi t i) 0 n ^^^ (-1))) S mi))) n (by
    refine mw_iload_n dX5_dark_4 rfl ?_
    refine mw_aload_n dX5_dark_5 rfl ?_
    refine mw_geti dX5_dark_6 fl_X5_59 rfl (by assumption) ?_
    refine mw_icmp_ge (tgt := 31) dX5_dark_9 (by decide) (fun h9 => ?_) (fun h9 => ?_)
    · skip
      refine mw_sipush (v := 255) dX5_dark_31 (by decide) ?_
      refine mw_iload_n dX5_dark_34 rfl ?_
      refine mw_iconst (v := (-1)) dX5_dark_35 (by decide) ?_
      refine mw_ixor dX5_dark_36 ?_
      refine mw_iand dX5_dark_37 ?_
      exact mw_iret dX5_dark_38 rfl (by decide) (by decide) (⟨rfl, rfl, rfl⟩)
    · skip
      exact absurd (by rw [hn]; exact Int32.le_refl _) h9) (fun k hk ih => by
    refine mw_iload_n dX5_dark_4 rfl ?_
    refine mw_aload_n dX5_dark_5 rfl ?_
    refine mw_geti dX5_dark_6 fl_X5_59 rfl (by assumption) ?_
    refine mw_icmp_ge (tgt := 31) dX5_dark_9 (by decide) (fun h9 => ?_) (fun h9 => ?_)
    · skip
      exact absurd h9 (by rw [hn]; exact nI_ge hk (by omega))
    · skip
      refine mw_iload_n dX5_dark_12 rfl ?_
      refine mw_aload_n dX5_dark_13 rfl ?_
      refine mw_aload_n dX5_dark_14 rfl ?_
      refine mw_getr dX5_dark_15 fl_X5_20 rfl (by assumption) (by assumption) ?_
      refine mw_iload_n dX5_dark_18 rfl ?_
      refine mw_aldK (k := k) dX5_dark_19 (by assumption) (by decide) (rfl) (by omega) (by decide) ((a_t k (by omega)).1) ?_
      refine mw_cVI (g := fX5_seenBy) dX5_dark_20 ml_X5_142 mfX5_seenBy (ok_X5_seenBy hT (a_t k (by omega)).2) (by assumption) rfl rfl (Nat.le_of_ble_eq_true rfl) ⟨by decide, by decide⟩ ⟨by decide, by decide⟩ ?_
      refine mw_ior dX5_dark_23 ?_
      refine mw_istN 1 dX5_dark_24 rfl (by decide) ?_
      refine mw_iincK (k := k) dX5_dark_25 rfl rfl (by decide) ?_
      refine mw_goto (tgt := 4) dX5_dark_28 (by decide) ?_
      exact MW.back ih (by simp [lsub, fld]))
  refine mw_iconst (v := 0) dX5_dark_0 (by decide) ?_
  refine mw_istN 1 dX5_dark_1 rfl (by decide) ?_
  refine mw_iconst (v := 0) dX5_dark_2 (by decide) ?_
  refine mw_istN 2 dX5_dark_3 rfl (by decide) ?_
  exact MW.back lp (by simp [lsub, fld, nI_0])
theorem dX5_viewOf_0 : decode fX5_viewOf.2.1 0 = .ok (.iconst 0, 1) := by decide +kernel
theorem dX5_viewOf_1 : decode fX5_viewOf.2.1 1 = .ok (.istore_n 2, 1) := by decide +kernel
theorem dX5_viewOf_2 : decode fX5_viewOf.2.1 2 = .ok (.iconst 0, 1) := by decide +kernel
theorem dX5_viewOf_3 : decode fX5_viewOf.2.1 3 = .ok (.istore_n 3, 1) := by decide +kernel
theorem dX5_viewOf_4 : decode fX5_viewOf.2.1 4 = .ok (.iload_n 3, 1) := by decide +kernel
theorem dX5_viewOf_5 : decode fX5_viewOf.2.1 5 = .ok (.aload_n 0, 1) := by decide +kernel
theorem dX5_viewOf_6 : decode fX5_viewOf.2.1 6 = .ok (.getfield 59, 3) := by decide +kernel
theorem dX5_viewOf_9 : decode fX5_viewOf.2.1 9 = .ok (.if_icmp .ge 27, 3) := by decide +kernel
theorem dX5_viewOf_12 : decode fX5_viewOf.2.1 12 = .ok (.iload_n 1, 1) := by decide +kernel
theorem dX5_viewOf_13 : decode fX5_viewOf.2.1 13 = .ok (.iload_n 3, 1) := by decide +kernel
theorem dX5_viewOf_14 : decode fX5_viewOf.2.1 14 = .ok (.ishr, 1) := by decide +kernel
theorem dX5_viewOf_15 : decode fX5_viewOf.2.1 15 = .ok (.iconst 1, 1) := by decide +kernel
theorem dX5_viewOf_16 : decode fX5_viewOf.2.1 16 = .ok (.iand, 1) := by decide +kernel
theorem dX5_viewOf_17 : decode fX5_viewOf.2.1 17 = .ok (.iconst 1, 1) := by decide +kernel
theorem dX5_viewOf_18 : decode fX5_viewOf.2.1 18 = .ok (.if_icmp .ne 12, 3) := by decide +kernel
theorem dX5_viewOf_21 : decode fX5_viewOf.2.1 21 = .ok (.iload_n 2, 1) := by decide +kernel
theorem dX5_viewOf_22 : decode fX5_viewOf.2.1 22 = .ok (.aload_n 0, 1) := by decide +kernel
theorem dX5_viewOf_23 : decode fX5_viewOf.2.1 23 = .ok (.getfield 49, 3) := by decide +kernel
theorem dX5_viewOf_26 : decode fX5_viewOf.2.1 26 = .ok (.iload_n 3, 1) := by decide +kernel
theorem dX5_viewOf_27 : decode fX5_viewOf.2.1 27 = .ok (.iaload, 1) := by decide +kernel
theorem dX5_viewOf_28 : decode fX5_viewOf.2.1 28 = .ok (.ior, 1) := by decide +kernel
theorem dX5_viewOf_29 : decode fX5_viewOf.2.1 29 = .ok (.istore_n 2, 1) := by decide +kernel
theorem dX5_viewOf_30 : decode fX5_viewOf.2.1 30 = .ok (.iinc 3 1, 3) := by decide +kernel
theorem dX5_viewOf_33 : decode fX5_viewOf.2.1 33 = .ok (.goto (-29), 3) := by decide +kernel
theorem dX5_viewOf_36 : decode fX5_viewOf.2.1 36 = .ok (.iload_n 2, 1) := by decide +kernel
theorem dX5_viewOf_37 : decode fX5_viewOf.2.1 37 = .ok (.ireturn, 1) := by decide +kernel
set_option maxRecDepth 100000 in
set_option maxHeartbeats 4000000 in
theorem ok_X5_viewOf {X : Xb} {S : Sg} {mi : Mem} {t n : Nat} {j : Int32} (hT : TwA S t) (hn : mi t 3 = nI n) (hn8 : n ≤ 8) : OkI 0 fX5_viewOf X [rf X t, .int j] S mi (fld (fun s i => if j >>> (nI i &&& 31) &&& 1 = 1 then s ||| mi (t + 8) i else s) 0 n) mi := by
  refine Ok.go [some (rf X t), some (.int j), none, none] (by decide) (by simp [Value.category]) (Nat.le_of_ble_eq_true rfl) rfl ?_
  obtain ⟨k_t, ⟨r_t_home, k_t_home⟩, ⟨r_t_price, k_t_price⟩, ⟨r_t_attics, k_t_attics⟩, ⟨r_t_texts, k_t_texts⟩, ⟨r_t_counting, k_t_counting⟩, ⟨r_t_names, k_t_names⟩, ⟨r_t_pile, k_t_pile⟩, ⟨r_t_views, k_t_views⟩, a_t⟩ := id hT
  have lp := mw_dn (P := fun k => MW X fX5_viewOf (rmOf 0 0 0) 0 0 4 [some (rf X t), some (.int j), some (.int (fld (fun s i => if j >>> (nI i &&& 31) &&& 1 = 1 then s ||| mi (t + 8) i else s) 0 k)), some (.int (nI k))] [] S mi (mQ X 0 0 (pI (fld (fun s i => if j >>> (nI i &&& 31) &&& 1 = 1 then s ||| mi (t + 8) i else s) 0 n) S mi))) n (by
    refine mw_iload_n dX5_viewOf_4 rfl ?_
    refine mw_aload_n dX5_viewOf_5 rfl ?_
    refine mw_geti dX5_viewOf_6 fl_X5_59 rfl (by assumption) ?_
    refine mw_icmp_ge (tgt := 36) dX5_viewOf_9 (by decide) (fun h9 => ?_) (fun h9 => ?_)
    · skip
      refine mw_iload_n dX5_viewOf_36 rfl ?_
      exact mw_iret dX5_viewOf_37 rfl (by decide) (by decide) (⟨rfl, rfl, rfl⟩)
    · skip
      exact absurd (by rw [hn]; exact Int32.le_refl _) h9) (fun k hk ih => by
    refine mw_iload_n dX5_viewOf_4 rfl ?_
    refine mw_aload_n dX5_viewOf_5 rfl ?_
    refine mw_geti dX5_viewOf_6 fl_X5_59 rfl (by assumption) ?_
    refine mw_icmp_ge (tgt := 36) dX5_viewOf_9 (by decide) (fun h9 => ?_) (fun h9 => ?_)
    · skip
      exact absurd h9 (by rw [hn]; exact nI_ge hk (by omega))
    · skip
      refine mw_iload_n dX5_viewOf_12 rfl ?_
      refine mw_iload_n dX5_viewOf_13 rfl ?_
      refine mw_ishr dX5_viewOf_14 ?_
      refine mw_iconst (v := 1) dX5_viewOf_15 (by decide) ?_
      refine mw_iand dX5_viewOf_16 ?_
      refine mw_iconst (v := 1) dX5_viewOf_17 (by decide) ?_
      refine mw_icmp_ne (tgt := 30) dX5_viewOf_18 (by decide) (fun h18 => ?_) (fun h18 => ?_)
      · skip
        refine mw_iincK (k := k) dX5_viewOf_30 rfl rfl (by decide) ?_
        refine mw_goto (tgt := 4) dX5_viewOf_33 (by decide) ?_
        exact MW.back ih (by simp [lsub, fld, h18])
      · skip
        refine mw_iload_n dX5_viewOf_21 rfl ?_
        refine mw_aload_n dX5_viewOf_22 rfl ?_
        refine mw_getr dX5_viewOf_23 fl_X5_49 rfl (by assumption) (by assumption) ?_
        refine mw_iload_n dX5_viewOf_26 rfl ?_
        refine mw_ialdK (k := k) dX5_viewOf_27 (by assumption) (rfl) (by omega) (by decide) ?_
        refine mw_ior dX5_viewOf_28 ?_
        refine mw_istN 2 dX5_viewOf_29 rfl (by decide) ?_
        refine mw_iincK (k := k) dX5_viewOf_30 rfl rfl (by decide) ?_
        refine mw_goto (tgt := 4) dX5_viewOf_33 (by decide) ?_
        exact MW.back ih (by simp [lsub, fld, h18]))
  refine mw_iconst (v := 0) dX5_viewOf_0 (by decide) ?_
  refine mw_istN 2 dX5_viewOf_1 rfl (by decide) ?_
  refine mw_iconst (v := 0) dX5_viewOf_2 (by decide) ?_
  refine mw_istN 3 dX5_viewOf_3 rfl (by decide) ?_
  exact MW.back lp (by simp [lsub, fld, nI_0])
