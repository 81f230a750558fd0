/-! fine -/
theorem dX7_fine_0 : decode fX7_fine.2.1 0 = .ok (.aload_n 0, 1) := by decide +kernel
theorem dX7_fine_1 : decode fX7_fine.2.1 1 = .ok (.iload_n 1, 1) := by decide +kernel
theorem dX7_fine_2 : decode fX7_fine.2.1 2 = .ok (.invokevirtual 132, 3) := by decide +kernel
theorem dX7_fine_5 : decode fX7_fine.2.1 5 = .ok (.ifCond .ne 6, 3) := by decide +kernel
theorem dX7_fine_8 : decode fX7_fine.2.1 8 = .ok (.ldc 127, 2) := by decide +kernel
theorem dX7_fine_10 : decode fX7_fine.2.1 10 = .ok (.ireturn, 1) := by decide +kernel
theorem dX7_fine_11 : decode fX7_fine.2.1 11 = .ok (.aload_n 0, 1) := by decide +kernel
theorem dX7_fine_12 : decode fX7_fine.2.1 12 = .ok (.iconst 2, 1) := by decide +kernel
theorem dX7_fine_13 : decode fX7_fine.2.1 13 = .ok (.invokevirtual 107, 3) := by decide +kernel
theorem dX7_fine_16 : decode fX7_fine.2.1 16 = .ok (.istore_n 2, 1) := by decide +kernel
theorem dX7_fine_17 : decode fX7_fine.2.1 17 = .ok (.aload_n 0, 1) := by decide +kernel
theorem dX7_fine_18 : decode fX7_fine.2.1 18 = .ok (.getfield 48, 3) := by decide +kernel
theorem dX7_fine_21 : decode fX7_fine.2.1 21 = .ok (.iconst 0, 1) := by decide +kernel
theorem dX7_fine_22 : decode fX7_fine.2.1 22 = .ok (.aload_n 0, 1) := by decide +kernel
theorem dX7_fine_23 : decode fX7_fine.2.1 23 = .ok (.iload_n 1, 1) := by decide +kernel
theorem dX7_fine_24 : decode fX7_fine.2.1 24 = .ok (.iconst 3, 1) := by decide +kernel
theorem dX7_fine_25 : decode fX7_fine.2.1 25 = .ok (.invokevirtual 86, 3) := by decide +kernel
theorem dX7_fine_28 : decode fX7_fine.2.1 28 = .ok (.iastore, 1) := by decide +kernel
theorem dX7_fine_29 : decode fX7_fine.2.1 29 = .ok (.aload_n 0, 1) := by decide +kernel
theorem dX7_fine_30 : decode fX7_fine.2.1 30 = .ok (.getfield 48, 3) := by decide +kernel
theorem dX7_fine_33 : decode fX7_fine.2.1 33 = .ok (.iconst 1, 1) := by decide +kernel
theorem dX7_fine_34 : decode fX7_fine.2.1 34 = .ok (.aload_n 0, 1) := by decide +kernel
theorem dX7_fine_35 : decode fX7_fine.2.1 35 = .ok (.iload_n 1, 1) := by decide +kernel
theorem dX7_fine_36 : decode fX7_fine.2.1 36 = .ok (.iconst 4, 1) := by decide +kernel
theorem dX7_fine_37 : decode fX7_fine.2.1 37 = .ok (.invokevirtual 86, 3) := by decide +kernel
theorem dX7_fine_40 : decode fX7_fine.2.1 40 = .ok (.iastore, 1) := by decide +kernel
theorem dX7_fine_41 : decode fX7_fine.2.1 41 = .ok (.iload_n 2, 1) := by decide +kernel
theorem dX7_fine_42 : decode fX7_fine.2.1 42 = .ok (.ifCond .ge 12, 3) := by decide +kernel
theorem dX7_fine_45 : decode fX7_fine.2.1 45 = .ok (.aload_n 0, 1) := by decide +kernel
theorem dX7_fine_46 : decode fX7_fine.2.1 46 = .ok (.iload_n 1, 1) := by decide +kernel
theorem dX7_fine_47 : decode fX7_fine.2.1 47 = .ok (.iconst 4, 1) := by decide +kernel
theorem dX7_fine_48 : decode fX7_fine.2.1 48 = .ok (.invokevirtual 86, 3) := by decide +kernel
theorem dX7_fine_51 : decode fX7_fine.2.1 51 = .ok (.goto 8, 3) := by decide +kernel
theorem dX7_fine_54 : decode fX7_fine.2.1 54 = .ok (.aload_n 0, 1) := by decide +kernel
theorem dX7_fine_55 : decode fX7_fine.2.1 55 = .ok (.iload_n 2, 1) := by decide +kernel
theorem dX7_fine_56 : decode fX7_fine.2.1 56 = .ok (.invokevirtual 116, 3) := by decide +kernel
theorem dX7_fine_59 : decode fX7_fine.2.1 59 = .ok (.ireturn, 1) := by decide +kernel
set_option maxRecDepth 100000 in
set_option maxHeartbeats 4000000 in
theorem ok_X7_fine {X : Xb} {S : Sg} {mi : Mem} {o c n : Nat} {v : Int32} (hM : MdA S o) (hc : mi (o + 1) 1 = nI c) (hc8 : c ≤ 8) (hn : mi (o + 1) 5 = nI n) (hn14 : n ≤ 14) (ht : MtOk (mi (o + 1)) n) : Ok 6 0 0 fX7_fine X [rf X o, .int v] S mi (fun r S' m => r = some (.int (if 0 ≤ v ∧ v ≤ nI c - 1 then law4F (lwM (mi (o + 1)) 2 n) (mi (o + 1) (26 + 5 * v.toNatClampNeg + 4)) (mi (o + 1) (26 + 5 * v.toNatClampNeg + 3)) (mi (o + 1) (26 + 5 * v.toNatClampNeg + 4)) (mi (o + 13) 2) (mi (o + 13) 3) else BADi)) ∧ S' = S ∧ ScrM o mi m) := by
  refine Ok.go [some (rf X o), some (.int v), none] (by decide) (by simp [Value.category]) (Nat.le_of_ble_eq_true rfl) rfl ?_
  obtain ⟨k_o, ⟨r_o_now, k_o_now⟩, ⟨r_o_image, k_o_image⟩, ⟨r_o_aside, k_o_aside⟩, ⟨r_o_seen, k_o_seen⟩, ⟨r_o_unlike, k_o_unlike⟩, ⟨r_o_tape, k_o_tape⟩, ⟨r_o_keys, k_o_keys⟩, ⟨r_o_keyAt, k_o_keyAt⟩, ⟨r_o_code, k_o_code⟩, ⟨r_o_waits, k_o_waits⟩, ⟨r_o_tested, k_o_tested⟩, ⟨r_o_stack, k_o_stack⟩, ⟨r_o_facts, k_o_facts⟩, ⟨r_o_sorts, k_o_sorts⟩, ⟨r_o_sizes, k_o_sizes⟩, ⟨r_o_cells, k_o_cells⟩, ⟨r_o_holds, k_o_holds⟩, ⟨r_o_holdsA, k_o_holdsA⟩, ⟨r_o_holdsB, k_o_holdsB⟩, ⟨r_o_heldCells, k_o_heldCells⟩, ⟨r_o_moved, k_o_moved⟩, ⟨r_o_tells, k_o_tells⟩⟩ := id hM
  have n1 : o + 1 ≠ o + 13 := by omega
  have n2 : o + 1 ≠ o + 12 := by omega
  have go : ∀ a, a < c → v = nI a → MW X fX7_fine (rmOf 6 0 0) 0 0 11 [some (rf X o), some (.int (nI a)), none] [] S mi (mQ X 0 0 (fun r S' m => r = some (.int (if 0 ≤ v ∧ v ≤ nI c - 1 then law4F (lwM (mi (o + 1)) 2 n) (mi (o + 1) (26 + 5 * v.toNatClampNeg + 4)) (mi (o + 1) (26 + 5 * v.toNatClampNeg + 3)) (mi (o + 1) (26 + 5 * v.toNatClampNeg + 4)) (mi (o + 13) 2) (mi (o + 13) 3) else BADi)) ∧ S' = S ∧ ScrM o mi m)) := by
    intro a hac hv
    have ev : v.toNatClampNeg = a := by rw [hv, nI_clamp (by omega)]
    have hcv : 0 ≤ v ∧ v ≤ nI c - 1 := by
      rw [hv, show nI c - 1 = nI (c - 1) from pk_sub (b := 1) (by omega)]
      exact ⟨nI_pos' (by omega), nI_le (by omega) (by omega)⟩
    rw [if_pos hcv, ev]
    have s54 : ∀ (m : Mem) (t : Nat), ScrM o mi m → m (o + 13) 0 = mi (o + 1) (26 + 5 * a + 3) → m (o + 13) 1 = mi (o + 1) (26 + 5 * a + 4) → m (o + 13) 2 = mi (o + 13) 2 → m (o + 13) 3 = mi (o + 13) 3 → lastK (mi (o + 1)) 2 n = some t → MW X fX7_fine (rmOf 6 0 0) 0 0 54 [some (rf X o), some (.int (nI a)), some (.int (nI t))] [] S m (mQ X 0 0 (fun r S' m => r = some (.int (law4F (lwM (mi (o + 1)) 2 n) (mi (o + 1) (26 + 5 * a + 4)) (mi (o + 1) (26 + 5 * a + 3)) (mi (o + 1) (26 + 5 * a + 4)) (mi (o + 13) 2) (mi (o + 13) 3))) ∧ S' = S ∧ ScrM o mi m)) := by
      intro m t hs f0 f1 f2 f3 hk
      have htn := lastK_lt n hk
      have em : m (o + 1) = mi (o + 1) := hs (o + 1) (by omega) (by omega)
      refine mw_aload_n dX7_fine_54 rfl ?_
      refine mw_iload_n dX7_fine_55 rfl ?_
      refine mw_cVI (g := fX7_worksOut) dX7_fine_56 ml_X7_116 mfX7_worksOut (ok_X7_worksOut (t := t) (n := mLen (mi (o + 1)) t) hM (by omega) (by rw [em]; exact (ht t htn).1) (by rw [em]; exact (ht t htn).2)) (by assumption) rfl rfl (Nat.le_of_ble_eq_true rfl) ⟨by decide, by decide⟩ ⟨by decide, by decide⟩ ?_
      rw [em, wRun_law (ht t htn).2 f0 f1 f2 f3]
      exact mw_iret dX7_fine_59 rfl (by decide) (by decide) (⟨by rw [lwM, hk]; rfl, rfl, hs.row⟩)
    refine mw_aload_n dX7_fine_11 rfl ?_
    refine mw_iconst (v := 2) dX7_fine_12 (by decide) ?_
    refine mw_cVI (g := fX7_counts) dX7_fine_13 ml_X7_107 mfX7_counts (ok_X7_counts (key := 2) hM hn hn14) (by assumption) rfl rfl (Nat.le_of_ble_eq_true rfl) ⟨by decide, by decide⟩ ⟨by decide, by decide⟩ ?_
    refine mw_istN 2 dX7_fine_16 rfl (by decide) ?_
    refine mw_aload_n dX7_fine_17 rfl ?_
    refine mw_getr dX7_fine_18 fl_X7_48 rfl (by assumption) (by assumption) ?_
    refine mw_iconst (v := 0) dX7_fine_21 (by decide) ?_
    refine mw_aload_n dX7_fine_22 rfl ?_
    refine mw_iload_n dX7_fine_23 rfl ?_
    refine mw_iconst (v := 3) dX7_fine_24 (by decide) ?_
    refine mw_cVI (g := fX7_of) dX7_fine_25 ml_X7_86 mfX7_of (ok_X7_of hM (a := a) (w := 3) (by omega) (by decide)) (by assumption) rfl rfl (Nat.le_of_ble_eq_true rfl) ⟨by decide, by decide⟩ ⟨by decide, by decide⟩ ?_
    refine mw_iastK (k := 0) dX7_fine_28 (by assumption) (rfl) (by decide) (by decide) ?_
    generalize hm1 : m_up mi (o + 13) 0 _ = m1
    have s1 : ScrM o mi m1 := by rw [← hm1]; exact (ScrM.rf o mi).up
    have em1 : m1 (o + 1) = mi (o + 1) := s1 _ n2 n1
    refine mw_aload_n dX7_fine_29 rfl ?_
    refine mw_getr dX7_fine_30 fl_X7_48 rfl (by assumption) (by assumption) ?_
    refine mw_iconst (v := 1) dX7_fine_33 (by decide) ?_
    refine mw_aload_n dX7_fine_34 rfl ?_
    refine mw_iload_n dX7_fine_35 rfl ?_
    refine mw_iconst (v := 4) dX7_fine_36 (by decide) ?_
    refine mw_cVI (g := fX7_of) dX7_fine_37 ml_X7_86 mfX7_of (ok_X7_of hM (a := a) (w := 4) (by omega) (by decide)) (by assumption) rfl rfl (Nat.le_of_ble_eq_true rfl) ⟨by decide, by decide⟩ ⟨by decide, by decide⟩ ?_
    rw [em1]
    refine mw_iastK (k := 1) dX7_fine_40 (by assumption) (rfl) (by decide) (by decide) ?_
    generalize hm2 : m_up m1 (o + 13) 1 _ = m2
    have s2 : ScrM o mi m2 := by rw [← hm2]; exact s1.up
    have em2 : m2 (o + 1) = mi (o + 1) := s2 _ n2 n1
    refine mw_iload_n dX7_fine_41 rfl ?_
    refine mw_if_ge (tgt := 54) dX7_fine_42 (by decide) (fun h42 => ?_) (fun h42 => ?_)
    · skip
      cases hk : lastK (mi (o + 1)) 2 n with
      | none => exfalso; rw [lastI, hk] at h42; exact absurd h42 (by decide)
      | some t =>
        refine MW.sub (by simp [lsub, lastI, hk]) (s54 m2 t s2 ?_ ?_ ?_ ?_ hk)
        · rw [← hm2, ← hm1]; simp [m_up]
        · rw [← hm2]; simp [m_up]
        · rw [← hm2, ← hm1]; simp [m_up]
        · rw [← hm2, ← hm1]; simp [m_up]
    · skip
      refine mw_aload_n dX7_fine_45 rfl ?_
      refine mw_iload_n dX7_fine_46 rfl ?_
      refine mw_iconst (v := 4) dX7_fine_47 (by decide) ?_
      refine mw_cVI (g := fX7_of) dX7_fine_48 ml_X7_86 mfX7_of (ok_X7_of hM (a := a) (w := 4) (by omega) (by decide)) (by assumption) rfl rfl (Nat.le_of_ble_eq_true rfl) ⟨by decide, by decide⟩ ⟨by decide, by decide⟩ ?_
      have hk : lastK (mi (o + 1)) 2 n = none := by
        cases hk : lastK (mi (o + 1)) 2 n with
        | none => rfl
        | some t =>
          exfalso; apply h42; rw [lastI, hk]; exact nI_pos' (by have := lastK_lt n hk; omega)
      refine mw_goto (tgt := 59) dX7_fine_51 (by decide) ?_
      exact mw_iret dX7_fine_59 rfl (by decide) (by decide) (⟨by rw [em2, lwM, hk]; rfl, rfl, s2⟩)
  refine mw_aload_n dX7_fine_0 rfl ?_
  refine mw_iload_n dX7_fine_1 rfl ?_
  refine mw_cVI (g := fX7_isAttic) dX7_fine_2 ml_X7_132 mfX7_isAttic (ok_X7_isAttic hM) (by assumption) rfl rfl (Nat.le_of_ble_eq_true rfl) ⟨by decide, by decide⟩ ⟨by decide, by decide⟩ ?_
  rw [hc]
  refine mw_if_neB (tgt := 11) dX7_fine_5 (by decide) (fun h5 => ?_) (fun h5 => ?_)
  · skip
    obtain ⟨a, han, hv⟩ := inAt h5 hc8
    have gg := go a han hv
    rw [← hv] at gg
    exact MW.sub (by simp [lsub]) gg
  · skip
    refine mw_ldc dX7_fine_8 cn_X7_127 ?_
    exact mw_iret dX7_fine_10 rfl (by decide) (by decide) (by rw [if_neg h5]; exact ⟨rfl, rfl, ScrM.rf o mi⟩)
theorem dX6_fine_0 : decode fX6_fine.2.1 0 = .ok (.aload_n 0, 1) := by decide +kernel
theorem dX6_fine_1 : decode fX6_fine.2.1 1 = .ok (.iload_n 1, 1) := by decide +kernel
theorem dX6_fine_2 : decode fX6_fine.2.1 2 = .ok (.invokevirtual 63, 3) := by decide +kernel
theorem dX6_fine_5 : decode fX6_fine.2.1 5 = .ok (.ifCond .eq 22, 3) := by decide +kernel
theorem dX6_fine_8 : decode fX6_fine.2.1 8 = .ok (.aload_n 0, 1) := by decide +kernel
theorem dX6_fine_9 : decode fX6_fine.2.1 9 = .ok (.getfield 10, 3) := by decide +kernel
theorem dX6_fine_12 : decode fX6_fine.2.1 12 = .ok (.aload_n 0, 1) := by decide +kernel
theorem dX6_fine_13 : decode fX6_fine.2.1 13 = .ok (.getfield 10, 3) := by decide +kernel
theorem dX6_fine_16 : decode fX6_fine.2.1 16 = .ok (.getfield 66, 3) := by decide +kernel
theorem dX6_fine_19 : decode fX6_fine.2.1 19 = .ok (.iload_n 1, 1) := by decide +kernel
theorem dX6_fine_20 : decode fX6_fine.2.1 20 = .ok (.aaload, 1) := by decide +kernel
theorem dX6_fine_21 : decode fX6_fine.2.1 21 = .ok (.invokevirtual 201, 3) := by decide +kernel
theorem dX6_fine_24 : decode fX6_fine.2.1 24 = .ok (.goto 5, 3) := by decide +kernel
theorem dX6_fine_27 : decode fX6_fine.2.1 27 = .ok (.ldc 58, 2) := by decide +kernel
theorem dX6_fine_29 : decode fX6_fine.2.1 29 = .ok (.ireturn, 1) := by decide +kernel
set_option maxRecDepth 100000 in
set_option maxHeartbeats 4000000 in
theorem ok_X6_fine {X : Xb} {S : Sg} {mi : Mem} {x n : Nat} {v : Int32} (hX : AsA S x) (hn : mi (x + 1) 3 = nI n) (hn8 : n ≤ 8) (hx : TxOk2 S mi (x + 1) 2) : Ok 3 0 0 fX6_fine X [rf X x, .int v] S mi (fun r S' m => r = some (.int (if 0 ≤ v ∧ v ≤ nI n - 1 then law2F (lwC S mi (x + 1) 2) (mi (x + 1 + 9 + v.toNatClampNeg) 4) (mi (x + 1 + 9 + v.toNatClampNeg) 3) (mi (x + 1 + 9 + v.toNatClampNeg) 4) else BADi)) ∧ S' = S ∧ Scr (x + 1) mi m) := by
  refine Ok.go [some (rf X x), some (.int v)] (by decide) (by simp [Value.category]) (Nat.le_of_ble_eq_true rfl) rfl ?_
  obtain ⟨k_x, ⟨r_x_now, t_now⟩, ⟨r_x_thought, t_thought⟩, ⟨r_x_image, t_image⟩, ⟨r_x_tape, t_tape⟩, ⟨r_x_sheets, k_x_sheets⟩, ⟨r_x_slots, k_x_slots⟩, ⟨r_x_waiting, k_x_waiting⟩, ⟨r_x_diff, k_x_diff⟩, a_sheets, a_slots⟩ := id hX
  obtain ⟨k_t, ⟨r_t_home, k_t_home⟩, ⟨r_t_price, k_t_price⟩, ⟨r_t_attics, k_t_attics⟩, ⟨r_t_texts, k_t_texts⟩, ⟨r_t_counting, k_t_counting⟩, ⟨r_t_names, k_t_names⟩, ⟨r_t_pile, k_t_pile⟩, ⟨r_t_views, k_t_views⟩, a_t⟩ := id t_now
  have go : ∀ a, a < n → v = nI a → (0 ≤ v ∧ v ≤ nI n - 1) → MW X fX6_fine (rmOf 3 0 0) 0 0 8 [some (rf X x), some (.int (nI a))] [] S mi (mQ X 0 0 (fun r S' m => r = some (.int (if 0 ≤ v ∧ v ≤ nI n - 1 then law2F (lwC S mi (x + 1) 2) (mi (x + 1 + 9 + v.toNatClampNeg) 4) (mi (x + 1 + 9 + v.toNatClampNeg) 3) (mi (x + 1 + 9 + v.toNatClampNeg) 4) else BADi)) ∧ S' = S ∧ Scr (x + 1) mi m)) := by
    intro a han hv hc
    have ev : v.toNatClampNeg = a := by rw [hv, nI_clamp (by omega)]
    have hka := (a_t a (by omega)).2
    refine mw_aload_n dX6_fine_8 rfl ?_
    refine mw_getr dX6_fine_9 fl_X6_10 rfl (by assumption) (by assumption) ?_
    refine mw_aload_n dX6_fine_12 rfl ?_
    refine mw_getr dX6_fine_13 fl_X6_10 rfl (by assumption) (by assumption) ?_
    refine mw_getr dX6_fine_16 fl_X6_66 rfl (by assumption) (by assumption) ?_
    refine mw_iload_n dX6_fine_19 rfl ?_
    refine mw_aldK (k := a) dX6_fine_20 (by assumption) (by decide) (rfl) (by omega) (by decide) ((a_t a (by omega)).1) ?_
    refine mw_callV (g := fX5_fineGives) dX6_fine_21 ml_X6_201 mfX5_fineGives (ok_X5_fineGives t_now hka hx) (t_now.1) rfl rfl (Nat.le_of_ble_eq_true rfl) ⟨by decide, by decide⟩ ⟨by decide, by decide⟩ (fun r S2 mi2 hp => ?_)
    obtain ⟨rfl, e1, e2⟩ := hp
    refine mw_goto (tgt := 29) dX6_fine_24 (by decide) ?_
    exact mw_iret dX6_fine_29 rfl (by decide) (by decide) (⟨by rw [if_pos hc, ev], e1, e2⟩)
  refine mw_aload_n dX6_fine_0 rfl ?_
  refine mw_iload_n dX6_fine_1 rfl ?_
  refine mw_cVI (g := fX6_isAttic) dX6_fine_2 ml_X6_63 mfX6_isAttic (ok_X6_isAttic hX hn) (by assumption) rfl rfl (Nat.le_of_ble_eq_true rfl) ⟨by decide, by decide⟩ ⟨by decide, by decide⟩ ?_
  refine mw_if_eqB (tgt := 27) dX6_fine_5 (by decide) (fun h5 => ?_) (fun h5 => ?_)
  · skip
    refine mw_ldc dX6_fine_27 cn_X6_58 ?_
    exact mw_iret dX6_fine_29 rfl (by decide) (by decide) (by rw [if_neg h5]; exact ⟨rfl, rfl, fun _ _ _ => rfl⟩)
  · skip
    obtain ⟨a, han, hv⟩ := inAt h5 hn8
    have gg := go a han hv h5
    rw [← hv] at gg
    exact MW.sub (by simp [lsub]) gg
