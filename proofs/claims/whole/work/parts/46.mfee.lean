/-! the model's fee and fine -/
def law4F (lw : LawT) (x a b c d : Int32) : Int32 := match lw with
  | none => x
  | some f => f a b c d
theorem dX7_fee_0 : decode fX7_fee.2.1 0 = .ok (.aload_n 0, 1) := by decide +kernel
theorem dX7_fee_1 : decode fX7_fee.2.1 1 = .ok (.iconst 1, 1) := by decide +kernel
theorem dX7_fee_2 : decode fX7_fee.2.1 2 = .ok (.invokevirtual 107, 3) := by decide +kernel
theorem dX7_fee_5 : decode fX7_fee.2.1 5 = .ok (.istore_n 1, 1) := by decide +kernel
theorem dX7_fee_6 : decode fX7_fee.2.1 6 = .ok (.aload_n 0, 1) := by decide +kernel
theorem dX7_fee_7 : decode fX7_fee.2.1 7 = .ok (.getfield 48, 3) := by decide +kernel
theorem dX7_fee_10 : decode fX7_fee.2.1 10 = .ok (.iconst 0, 1) := by decide +kernel
theorem dX7_fee_11 : decode fX7_fee.2.1 11 = .ok (.aload_n 0, 1) := by decide +kernel
theorem dX7_fee_12 : decode fX7_fee.2.1 12 = .ok (.getfield 9, 3) := by decide +kernel
theorem dX7_fee_15 : decode fX7_fee.2.1 15 = .ok (.iconst 3, 1) := by decide +kernel
theorem dX7_fee_16 : decode fX7_fee.2.1 16 = .ok (.iaload, 1) := by decide +kernel
theorem dX7_fee_17 : decode fX7_fee.2.1 17 = .ok (.iastore, 1) := by decide +kernel
theorem dX7_fee_18 : decode fX7_fee.2.1 18 = .ok (.aload_n 0, 1) := by decide +kernel
theorem dX7_fee_19 : decode fX7_fee.2.1 19 = .ok (.getfield 48, 3) := by decide +kernel
theorem dX7_fee_22 : decode fX7_fee.2.1 22 = .ok (.iconst 1, 1) := by decide +kernel
theorem dX7_fee_23 : decode fX7_fee.2.1 23 = .ok (.aload_n 0, 1) := by decide +kernel
theorem dX7_fee_24 : decode fX7_fee.2.1 24 = .ok (.iconst 4, 1) := by decide +kernel
theorem dX7_fee_25 : decode fX7_fee.2.1 25 = .ok (.invokevirtual 166, 3) := by decide +kernel
theorem dX7_fee_28 : decode fX7_fee.2.1 28 = .ok (.iastore, 1) := by decide +kernel
theorem dX7_fee_29 : decode fX7_fee.2.1 29 = .ok (.iload_n 1, 1) := by decide +kernel
theorem dX7_fee_30 : decode fX7_fee.2.1 30 = .ok (.ifCond .ge 12, 3) := by decide +kernel
theorem dX7_fee_33 : decode fX7_fee.2.1 33 = .ok (.aload_n 0, 1) := by decide +kernel
theorem dX7_fee_34 : decode fX7_fee.2.1 34 = .ok (.getfield 9, 3) := by decide +kernel
theorem dX7_fee_37 : decode fX7_fee.2.1 37 = .ok (.iconst 3, 1) := by decide +kernel
theorem dX7_fee_38 : decode fX7_fee.2.1 38 = .ok (.iaload, 1) := by decide +kernel
theorem dX7_fee_39 : decode fX7_fee.2.1 39 = .ok (.goto 8, 3) := by decide +kernel
theorem dX7_fee_42 : decode fX7_fee.2.1 42 = .ok (.aload_n 0, 1) := by decide +kernel
theorem dX7_fee_43 : decode fX7_fee.2.1 43 = .ok (.iload_n 1, 1) := by decide +kernel
theorem dX7_fee_44 : decode fX7_fee.2.1 44 = .ok (.invokevirtual 116, 3) := by decide +kernel
theorem dX7_fee_47 : decode fX7_fee.2.1 47 = .ok (.ireturn, 1) := by decide +kernel
set_option maxRecDepth 100000 in
set_option maxHeartbeats 4000000 in
theorem ok_X7_fee {X : Xb} {S : Sg} {mi : Mem} {o c n : Nat} (hM : MdA S o) (hc : mi (o + 1) 1 = nI c) (hc8 : c ≤ 8) (hn : mi (o + 1) 5 = nI n) (hn14 : n ≤ 14) (ht : MtOk (mi (o + 1)) n) : Ok 6 0 0 fX7_fee X [rf X o] S mi (fun r S' m => r = some (.int (law4F (lwM (mi (o + 1)) 1 n) (mi (o + 1) 3) (mi (o + 1) 3) (fld (fun s i => s + mi (o + 1) (26 + 5 * i + 4)) 0 c) (mi (o + 13) 2) (mi (o + 13) 3))) ∧ S' = S ∧ ScrM o mi m) := by
  refine Ok.go [some (rf X o), none] (by decide) (by simp [Value.category]) (Nat.le_of_ble_eq_true rfl) rfl ?_
  obtain ⟨k_o, ⟨r_o_now, k_o_now⟩, ⟨r_o_image, k_o_image⟩, ⟨r_o_aside, k_o_aside⟩, ⟨r_o_seen, k_o_seen⟩, ⟨r_o_unlike, k_o_unlike⟩, ⟨r_o_tape, k_o_tape⟩, ⟨r_o_keys, k_o_keys⟩, ⟨r_o_keyAt, k_o_keyAt⟩, ⟨r_o_code, k_o_code⟩, ⟨r_o_waits, k_o_waits⟩, ⟨r_o_tested, k_o_tested⟩, ⟨r_o_stack, k_o_stack⟩, ⟨r_o_facts, k_o_facts⟩, ⟨r_o_sorts, k_o_sorts⟩, ⟨r_o_sizes, k_o_sizes⟩, ⟨r_o_cells, k_o_cells⟩, ⟨r_o_holds, k_o_holds⟩, ⟨r_o_holdsA, k_o_holdsA⟩, ⟨r_o_holdsB, k_o_holdsB⟩, ⟨r_o_heldCells, k_o_heldCells⟩, ⟨r_o_moved, k_o_moved⟩, ⟨r_o_tells, k_o_tells⟩⟩ := id hM
  have n1 : o + 1 ≠ o + 13 := by omega
  have n2 : o + 1 ≠ o + 12 := by omega
  have s42 : ∀ (m : Mem) (t : Nat), ScrM o mi m → m (o + 13) 0 = mi (o + 1) 3 → m (o + 13) 1 = fld (fun s i => s + mi (o + 1) (26 + 5 * i + 4)) 0 c → m (o + 13) 2 = mi (o + 13) 2 → m (o + 13) 3 = mi (o + 13) 3 → lastK (mi (o + 1)) 1 n = some t → MW X fX7_fee (rmOf 6 0 0) 0 0 42 [some (rf X o), some (.int (nI t))] [] S m (mQ X 0 0 (fun r S' m => r = some (.int (law4F (lwM (mi (o + 1)) 1 n) (mi (o + 1) 3) (mi (o + 1) 3) (fld (fun s i => s + mi (o + 1) (26 + 5 * i + 4)) 0 c) (mi (o + 13) 2) (mi (o + 13) 3))) ∧ S' = S ∧ ScrM o mi m)) := by
    intro m t hs f0 f1 f2 f3 hk
    have htn := lastK_lt n hk
    have em : m (o + 1) = mi (o + 1) := hs (o + 1) (by omega) (by omega)
    refine mw_aload_n dX7_fee_42 rfl ?_
    refine mw_iload_n dX7_fee_43 rfl ?_
    refine mw_cVI (g := fX7_worksOut) dX7_fee_44 ml_X7_116 mfX7_worksOut (ok_X7_worksOut (t := t) (n := mLen (mi (o + 1)) t) hM (by omega) (by rw [em]; exact (ht t htn).1) (by rw [em]; exact (ht t htn).2)) (by assumption) rfl rfl (Nat.le_of_ble_eq_true rfl) ⟨by decide, by decide⟩ ⟨by decide, by decide⟩ ?_
    rw [em, wRun_law (ht t htn).2 f0 f1 f2 f3]
    exact mw_iret dX7_fee_47 rfl (by decide) (by decide) (⟨by rw [lwM, hk]; rfl, rfl, hs.row⟩)
  refine mw_aload_n dX7_fee_0 rfl ?_
  refine mw_iconst (v := 1) dX7_fee_1 (by decide) ?_
  refine mw_cVI (g := fX7_counts) dX7_fee_2 ml_X7_107 mfX7_counts (ok_X7_counts (key := 1) hM hn hn14) (by assumption) rfl rfl (Nat.le_of_ble_eq_true rfl) ⟨by decide, by decide⟩ ⟨by decide, by decide⟩ ?_
  refine mw_istN 1 dX7_fee_5 rfl (by decide) ?_
  refine mw_aload_n dX7_fee_6 rfl ?_
  refine mw_getr dX7_fee_7 fl_X7_48 rfl (by assumption) (by assumption) ?_
  refine mw_iconst (v := 0) dX7_fee_10 (by decide) ?_
  refine mw_aload_n dX7_fee_11 rfl ?_
  refine mw_getr dX7_fee_12 fl_X7_9 rfl (by assumption) (by assumption) ?_
  refine mw_iconst (v := 3) dX7_fee_15 (by decide) ?_
  refine mw_ialdK (k := 3) dX7_fee_16 (by assumption) (rfl) (by decide) (by decide) ?_
  refine mw_iastK (k := 0) dX7_fee_17 (by assumption) (rfl) (by decide) (by decide) ?_
  generalize hm1 : m_up mi (o + 13) 0 _ = m1
  have s1 : ScrM o mi m1 := by rw [← hm1]; exact (ScrM.rf o mi).up
  have em1 : m1 (o + 1) = mi (o + 1) := s1 _ n2 n1
  refine mw_aload_n dX7_fee_18 rfl ?_
  refine mw_getr dX7_fee_19 fl_X7_48 rfl (by assumption) (by assumption) ?_
  refine mw_iconst (v := 1) dX7_fee_22 (by decide) ?_
  refine mw_aload_n dX7_fee_23 rfl ?_
  refine mw_iconst (v := 4) dX7_fee_24 (by decide) ?_
  refine mw_cVI (g := fX7_sumOf) dX7_fee_25 ml_X7_166 mfX7_sumOf (ok_X7_sumOf (w := 4) hM (by rw [em1]; exact hc) hc8 (by decide)) (by assumption) rfl rfl (Nat.le_of_ble_eq_true rfl) ⟨by decide, by decide⟩ ⟨by decide, by decide⟩ ?_
  rw [em1]
  refine mw_iastK (k := 1) dX7_fee_28 (by assumption) (rfl) (by decide) (by decide) ?_
  generalize hm2 : m_up m1 (o + 13) 1 _ = m2
  have s2 : ScrM o mi m2 := by rw [← hm2]; exact s1.up
  have em2 : m2 (o + 1) = mi (o + 1) := s2 _ n2 n1
  refine mw_iload_n dX7_fee_29 rfl ?_
  refine mw_if_ge (tgt := 42) dX7_fee_30 (by decide) (fun h30 => ?_) (fun h30 => ?_)
  · skip
    cases hk : lastK (mi (o + 1)) 1 n with
    | none => exfalso; rw [lastI, hk] at h30; exact absurd h30 (by decide)
    | some t =>
      refine MW.sub (by simp [lsub, lastI, hk]) (s42 m2 t s2 ?_ ?_ ?_ ?_ hk)
      · rw [← hm2, ← hm1]; simp [m_up]
      · rw [← hm2]; simp [m_up]
      · rw [← hm2, ← hm1]; simp [m_up]
      · rw [← hm2, ← hm1]; simp [m_up]
  · skip
    refine mw_aload_n dX7_fee_33 rfl ?_
    refine mw_getr dX7_fee_34 fl_X7_9 rfl (by assumption) (by assumption) ?_
    refine mw_iconst (v := 3) dX7_fee_37 (by decide) ?_
    refine mw_ialdK (k := 3) dX7_fee_38 (by assumption) (rfl) (by decide) (by decide) ?_
    have hk : lastK (mi (o + 1)) 1 n = none := by
      cases hk : lastK (mi (o + 1)) 1 n with
      | none => rfl
      | some t =>
        exfalso; apply h30; rw [lastI, hk]; exact nI_pos' (by have := lastK_lt n hk; omega)
    refine mw_goto (tgt := 47) dX7_fee_39 (by decide) ?_
    exact mw_iret dX7_fee_47 rfl (by decide) (by decide) (⟨by rw [em2, lwM, hk]; rfl, rfl, s2⟩)
