/-! what the model thinks -/
def FrK (o : Nat) (mi m : Mem) : Prop := ∀ a, a ≠ o + 1 → a ≠ o + 3 → a ≠ o + 12 → a ≠ o + 13 → m a = mi a
def PK (S : Sg) (mi : Mem) (o : Nat) (v : Int32) : Pt3 := fun r S' m => r = some (.int v) ∧ S' = S ∧ m (o + 1) = mi (o + 1) ∧ FrK o mi m
theorem thk_now {mi : Mem} {o : Nat} : m_cpy mi (o + 1) (o + 3) 0 0 1438 (o + 1) = mi (o + 1) := by
  funext j
  simp only [m_cpy, show o + 1 ≠ o + 3 by omega, false_and, if_false]
theorem thk_aside {mi : Mem} {o j : Nat} (hj : j < 1438) : m_cpy mi (o + 1) (o + 3) 0 0 1438 (o + 3) j = mi (o + 1) j := by
  simp only [m_cpy, true_and, Nat.zero_le, Nat.zero_add, hj, if_true, Nat.sub_zero]
theorem thk_back {mi m : Mem} {o : Nat} (hF : FrM o (m_cpy mi (o + 1) (o + 3) 0 0 1438) m) (tl : tail66 (mi (o + 1)) (m (o + 1))) : m_cpy m (o + 3) (o + 1) 0 0 1438 (o + 1) = mi (o + 1) ∧ FrK o mi (m_cpy m (o + 3) (o + 1) 0 0 1438) := by
  refine ⟨?_, ?_⟩
  · funext j
    by_cases h : j < 1438
    · simp only [m_cpy, true_and, Nat.zero_le, Nat.zero_add, h, if_true, Nat.sub_zero]
      rw [hF (o + 3) (by omega) (by omega) (by omega)]
      exact thk_aside h
    · simp only [m_cpy, Nat.zero_add, h, and_false, if_false]
      exact tl j (by omega)
  · intro a h1 h2 h3 h4
    funext j
    simp only [m_cpy, h1, false_and, if_false]
    rw [hF a h1 h3 h4]
    simp only [m_cpy, h2, false_and, if_false]
theorem dX7_thinks_0 : decode fX7_thinks.2.1 0 = .ok (.aload_n 0, 1) := by decide +kernel
theorem dX7_thinks_1 : decode fX7_thinks.2.1 1 = .ok (.getfield 9, 3) := by decide +kernel
theorem dX7_thinks_4 : decode fX7_thinks.2.1 4 = .ok (.aload_n 0, 1) := by decide +kernel
theorem dX7_thinks_5 : decode fX7_thinks.2.1 5 = .ok (.getfield 16, 3) := by decide +kernel
theorem dX7_thinks_8 : decode fX7_thinks.2.1 8 = .ok (.invokestatic 173, 3) := by decide +kernel
theorem dX7_thinks_11 : decode fX7_thinks.2.1 11 = .ok (.return_, 1) := by decide +kernel
set_option maxRecDepth 100000 in
set_option maxHeartbeats 4000000 in
theorem ok_X7_thinks {X : Xb} {S : Sg} {mi : Mem} {o : Nat} (hM : MdA S o) : OkV 1 fX7_thinks X [rf X o] S mi (m_cpy mi (o + 1) (o + 3) 0 0 1438) := by
  refine Ok.go [some (rf X o)] (by decide) (by simp [Value.category]) (Nat.le_of_ble_eq_true rfl) rfl ?_
  obtain ⟨k_o, ⟨r_o_now, k_o_now⟩, ⟨r_o_image, k_o_image⟩, ⟨r_o_aside, k_o_aside⟩, ⟨r_o_seen, k_o_seen⟩, ⟨r_o_unlike, k_o_unlike⟩, ⟨r_o_tape, k_o_tape⟩, ⟨r_o_keys, k_o_keys⟩, ⟨r_o_keyAt, k_o_keyAt⟩, ⟨r_o_code, k_o_code⟩, ⟨r_o_waits, k_o_waits⟩, ⟨r_o_tested, k_o_tested⟩, ⟨r_o_stack, k_o_stack⟩, ⟨r_o_facts, k_o_facts⟩, ⟨r_o_sorts, k_o_sorts⟩, ⟨r_o_sizes, k_o_sizes⟩, ⟨r_o_cells, k_o_cells⟩, ⟨r_o_holds, k_o_holds⟩, ⟨r_o_holdsA, k_o_holdsA⟩, ⟨r_o_holdsB, k_o_holdsB⟩, ⟨r_o_heldCells, k_o_heldCells⟩, ⟨r_o_moved, k_o_moved⟩, ⟨r_o_tells, k_o_tells⟩⟩ := id hM
  refine mw_aload_n dX7_thinks_0 rfl ?_
  refine mw_getr dX7_thinks_1 fl_X7_9 rfl (by assumption) (by assumption) ?_
  refine mw_aload_n dX7_thinks_4 rfl ?_
  refine mw_getr dX7_thinks_5 fl_X7_16 rfl (by assumption) (by assumption) ?_
  refine mw_cSV (g := fX7_copyAll) dX7_thinks_8 ml_X7_173 mfX7_copyAll (ok_X7_copyAll hM.2.1.2 hM.2.2.2.1.2 (by omega)) rfl rfl (Nat.le_of_ble_eq_true rfl) ⟨by decide, by decide⟩ ⟨by decide, by decide⟩ ?_
  exact mw_vret dX7_thinks_11 rfl (by decide) (by decide) (⟨rfl, rfl, rfl⟩)
theorem dX7_putsBack_0 : decode fX7_putsBack.2.1 0 = .ok (.aload_n 0, 1) := by decide +kernel
theorem dX7_putsBack_1 : decode fX7_putsBack.2.1 1 = .ok (.getfield 16, 3) := by decide +kernel
theorem dX7_putsBack_4 : decode fX7_putsBack.2.1 4 = .ok (.aload_n 0, 1) := by decide +kernel
theorem dX7_putsBack_5 : decode fX7_putsBack.2.1 5 = .ok (.getfield 9, 3) := by decide +kernel
theorem dX7_putsBack_8 : decode fX7_putsBack.2.1 8 = .ok (.invokestatic 173, 3) := by decide +kernel
theorem dX7_putsBack_11 : decode fX7_putsBack.2.1 11 = .ok (.return_, 1) := by decide +kernel
set_option maxRecDepth 100000 in
set_option maxHeartbeats 4000000 in
theorem ok_X7_putsBack {X : Xb} {S : Sg} {mi : Mem} {o : Nat} (hM : MdA S o) : OkV 1 fX7_putsBack X [rf X o] S mi (m_cpy mi (o + 3) (o + 1) 0 0 1438) := by
  refine Ok.go [some (rf X o)] (by decide) (by simp [Value.category]) (Nat.le_of_ble_eq_true rfl) rfl ?_
  obtain ⟨k_o, ⟨r_o_now, k_o_now⟩, ⟨r_o_image, k_o_image⟩, ⟨r_o_aside, k_o_aside⟩, ⟨r_o_seen, k_o_seen⟩, ⟨r_o_unlike, k_o_unlike⟩, ⟨r_o_tape, k_o_tape⟩, ⟨r_o_keys, k_o_keys⟩, ⟨r_o_keyAt, k_o_keyAt⟩, ⟨r_o_code, k_o_code⟩, ⟨r_o_waits, k_o_waits⟩, ⟨r_o_tested, k_o_tested⟩, ⟨r_o_stack, k_o_stack⟩, ⟨r_o_facts, k_o_facts⟩, ⟨r_o_sorts, k_o_sorts⟩, ⟨r_o_sizes, k_o_sizes⟩, ⟨r_o_cells, k_o_cells⟩, ⟨r_o_holds, k_o_holds⟩, ⟨r_o_holdsA, k_o_holdsA⟩, ⟨r_o_holdsB, k_o_holdsB⟩, ⟨r_o_heldCells, k_o_heldCells⟩, ⟨r_o_moved, k_o_moved⟩, ⟨r_o_tells, k_o_tells⟩⟩ := id hM
  refine mw_aload_n dX7_putsBack_0 rfl ?_
  refine mw_getr dX7_putsBack_1 fl_X7_16 rfl (by assumption) (by assumption) ?_
  refine mw_aload_n dX7_putsBack_4 rfl ?_
  refine mw_getr dX7_putsBack_5 fl_X7_9 rfl (by assumption) (by assumption) ?_
  refine mw_cSV (g := fX7_copyAll) dX7_putsBack_8 ml_X7_173 mfX7_copyAll (ok_X7_copyAll hM.2.2.2.1.2 hM.2.1.2 (by omega)) rfl rfl (Nat.le_of_ble_eq_true rfl) ⟨by decide, by decide⟩ ⟨by decide, by decide⟩ ?_
  exact mw_vret dX7_putsBack_11 rfl (by decide) (by decide) (⟨rfl, rfl, rfl⟩)
def mDebt (lw : LawT) (A : Nat → Int32) (n : Nat) (v y : Int32) : Int32 := if (0 ≤ v ∧ v ≤ nI n - 1) ∧ (0 ≤ y ∧ y ≤ 9999) then fndK (fun k => decide (y ≤ mHours lw n A k (26 + 5 * v.toNatClampNeg + 4))) 201 0 else BADi
theorem dX7_debt_0 : decode fX7_debt.2.1 0 = .ok (.aload_n 0, 1) := by decide +kernel
theorem dX7_debt_1 : decode fX7_debt.2.1 1 = .ok (.iload_n 1, 1) := by decide +kernel
theorem dX7_debt_2 : decode fX7_debt.2.1 2 = .ok (.invokevirtual 132, 3) := by decide +kernel
theorem dX7_debt_5 : decode fX7_debt.2.1 5 = .ok (.ifCond .eq 14, 3) := by decide +kernel
theorem dX7_debt_8 : decode fX7_debt.2.1 8 = .ok (.iload_n 2, 1) := by decide +kernel
theorem dX7_debt_9 : decode fX7_debt.2.1 9 = .ok (.iconst 0, 1) := by decide +kernel
theorem dX7_debt_10 : decode fX7_debt.2.1 10 = .ok (.sipush 9999, 3) := by decide +kernel
theorem dX7_debt_13 : decode fX7_debt.2.1 13 = .ok (.invokestatic 78, 3) := by decide +kernel
theorem dX7_debt_16 : decode fX7_debt.2.1 16 = .ok (.ifCond .ne 6, 3) := by decide +kernel
theorem dX7_debt_19 : decode fX7_debt.2.1 19 = .ok (.ldc 127, 2) := by decide +kernel
theorem dX7_debt_21 : decode fX7_debt.2.1 21 = .ok (.ireturn, 1) := by decide +kernel
theorem dX7_debt_22 : decode fX7_debt.2.1 22 = .ok (.aload_n 0, 1) := by decide +kernel
theorem dX7_debt_23 : decode fX7_debt.2.1 23 = .ok (.invokevirtual 177, 3) := by decide +kernel
theorem dX7_debt_26 : decode fX7_debt.2.1 26 = .ok (.iconst 0, 1) := by decide +kernel
theorem dX7_debt_27 : decode fX7_debt.2.1 27 = .ok (.istore_n 3, 1) := by decide +kernel
theorem dX7_debt_28 : decode fX7_debt.2.1 28 = .ok (.iload_n 3, 1) := by decide +kernel
theorem dX7_debt_29 : decode fX7_debt.2.1 29 = .ok (.sipush 200, 3) := by decide +kernel
theorem dX7_debt_32 : decode fX7_debt.2.1 32 = .ok (.if_icmp .gt 23, 3) := by decide +kernel
theorem dX7_debt_35 : decode fX7_debt.2.1 35 = .ok (.aload_n 0, 1) := by decide +kernel
theorem dX7_debt_36 : decode fX7_debt.2.1 36 = .ok (.iload_n 1, 1) := by decide +kernel
theorem dX7_debt_37 : decode fX7_debt.2.1 37 = .ok (.iconst 4, 1) := by decide +kernel
theorem dX7_debt_38 : decode fX7_debt.2.1 38 = .ok (.invokevirtual 86, 3) := by decide +kernel
theorem dX7_debt_41 : decode fX7_debt.2.1 41 = .ok (.iload_n 2, 1) := by decide +kernel
theorem dX7_debt_42 : decode fX7_debt.2.1 42 = .ok (.if_icmp .ge 13, 3) := by decide +kernel
theorem dX7_debt_45 : decode fX7_debt.2.1 45 = .ok (.aload_n 0, 1) := by decide +kernel
theorem dX7_debt_46 : decode fX7_debt.2.1 46 = .ok (.invokevirtual 160, 3) := by decide +kernel
theorem dX7_debt_49 : decode fX7_debt.2.1 49 = .ok (.iinc 3 1, 3) := by decide +kernel
theorem dX7_debt_52 : decode fX7_debt.2.1 52 = .ok (.goto (-24), 3) := by decide +kernel
theorem dX7_debt_55 : decode fX7_debt.2.1 55 = .ok (.aload_n 0, 1) := by decide +kernel
theorem dX7_debt_56 : decode fX7_debt.2.1 56 = .ok (.invokevirtual 180, 3) := by decide +kernel
theorem dX7_debt_59 : decode fX7_debt.2.1 59 = .ok (.iload_n 3, 1) := by decide +kernel
theorem dX7_debt_60 : decode fX7_debt.2.1 60 = .ok (.sipush 200, 3) := by decide +kernel
theorem dX7_debt_63 : decode fX7_debt.2.1 63 = .ok (.if_icmp .le 8, 3) := by decide +kernel
theorem dX7_debt_66 : decode fX7_debt.2.1 66 = .ok (.ldc 172, 2) := by decide +kernel
theorem dX7_debt_68 : decode fX7_debt.2.1 68 = .ok (.goto 4, 3) := by decide +kernel
theorem dX7_debt_71 : decode fX7_debt.2.1 71 = .ok (.iload_n 3, 1) := by decide +kernel
theorem dX7_debt_72 : decode fX7_debt.2.1 72 = .ok (.ireturn, 1) := by decide +kernel
set_option maxRecDepth 100000 in
set_option maxHeartbeats 4000000 in
theorem ok_X7_debt {X : Xb} {S : Sg} {mi : Mem} {o n t : Nat} {A : Nat → Int32} {lw : LawT} {v y : Int32} (hM : MdA S o) (hn8 : n ≤ 8) (hA : mi (o + 1) = A) (hn : A 1 = nI n) (ht : A 5 = nI t) (ht14 : t ≤ 14) (hx : MtOk A t) (hl : lwM A 0 t = lw) : Ok 7 0 0 fX7_debt X [rf X o, .int v, .int y] S mi (PK S mi o (mDebt lw A n v y)) := by
  refine Ok.go [some (rf X o), some (.int v), some (.int y), none] (by decide) (by simp [Value.category]) (Nat.le_of_ble_eq_true rfl) rfl ?_
  obtain ⟨k_o, ⟨r_o_now, k_o_now⟩, ⟨r_o_image, k_o_image⟩, ⟨r_o_aside, k_o_aside⟩, ⟨r_o_seen, k_o_seen⟩, ⟨r_o_unlike, k_o_unlike⟩, ⟨r_o_tape, k_o_tape⟩, ⟨r_o_keys, k_o_keys⟩, ⟨r_o_keyAt, k_o_keyAt⟩, ⟨r_o_code, k_o_code⟩, ⟨r_o_waits, k_o_waits⟩, ⟨r_o_tested, k_o_tested⟩, ⟨r_o_stack, k_o_stack⟩, ⟨r_o_facts, k_o_facts⟩, ⟨r_o_sorts, k_o_sorts⟩, ⟨r_o_sizes, k_o_sizes⟩, ⟨r_o_cells, k_o_cells⟩, ⟨r_o_holds, k_o_holds⟩, ⟨r_o_holdsA, k_o_holdsA⟩, ⟨r_o_holdsB, k_o_holdsB⟩, ⟨r_o_heldCells, k_o_heldCells⟩, ⟨r_o_moved, k_o_moved⟩, ⟨r_o_tells, k_o_tells⟩⟩ := id hM
  have en : mi (o + 1) 1 = nI n := by rw [hA, hn]
  have z : FrK o mi mi := fun _ _ _ _ _ => rfl
  have s55 : ∀ k m (u : Int32), k ≤ 201 → m (o + 1) = mHours lw n A k → FrM o (m_cpy mi (o + 1) (o + 3) 0 0 1438) m → (if k ≤ 200 then nI k else NONEi) = mDebt lw A n v y → MW X fX7_debt (rmOf 7 0 0) 0 0 55 [some (rf X o), some (.int u), some (.int y), some (.int (nI k))] [] S m (mQ X 0 0 (PK S mi o (mDebt lw A n v y))) := by
    intro k m u hk hm hF hR
    have b := thk_back hF (by rw [hm, hA]; exact mHours_hi hn8 k)
    refine mw_aload_n dX7_debt_55 rfl ?_
    refine mw_cVV (g := fX7_putsBack) dX7_debt_56 ml_X7_180 mfX7_putsBack (ok_X7_putsBack hM) (by assumption) rfl rfl (Nat.le_of_ble_eq_true rfl) ⟨by decide, by decide⟩ ⟨by decide, by decide⟩ ?_
    refine mw_iload_n dX7_debt_59 rfl ?_
    refine mw_sipush (v := 200) dX7_debt_60 (by decide) ?_
    refine mw_icmp_le (tgt := 71) dX7_debt_63 (by decide) (fun h63 => ?_) (fun h63 => ?_)
    · skip
      refine mw_iload_n dX7_debt_71 rfl ?_
      exact mw_iret dX7_debt_72 rfl (by decide) (by decide) (by first | exact ⟨by rw [← hR, if_pos (by rcases Nat.lt_or_ge 200 k with g | g; exact absurd h63 (Int32.not_le.mpr (nI_lt (a := 200) g (by omega))); exact g)], rfl, b⟩ | exact ⟨by rw [← hR, if_neg (fun g => h63 (nI_le (b := 200) g (by decide)))], rfl, b⟩ | fail "leaf")
    · skip
      refine mw_ldc dX7_debt_66 cn_X7_172 ?_
      refine mw_goto (tgt := 72) dX7_debt_68 (by decide) ?_
      exact mw_iret dX7_debt_72 rfl (by decide) (by decide) (by first | exact ⟨by rw [← hR, if_pos (by rcases Nat.lt_or_ge 200 k with g | g; exact absurd h63 (Int32.not_le.mpr (nI_lt (a := 200) g (by omega))); exact g)], rfl, b⟩ | exact ⟨by rw [← hR, if_neg (fun g => h63 (nI_le (b := 200) g (by decide)))], rfl, b⟩ | fail "leaf")
  have go : ∀ a, a < n → ∀ f k m, f + k = 201 → m (o + 1) = mHours lw n A k → FrM o (m_cpy mi (o + 1) (o + 3) 0 0 1438) m → fndK (fun k => decide (y ≤ mHours lw n A k (26 + 5 * a + 4))) f k = mDebt lw A n v y → MW X fX7_debt (rmOf 7 0 0) 0 0 28 [some (rf X o), some (.int (nI a)), some (.int y), some (.int (nI k))] [] S m (mQ X 0 0 (PK S mi o (mDebt lw A n v y))) := by
    intro a han f
    induction f with
    | zero =>
      intro k m hk hm hF hR
      have g : (200 : Int32) < nI k := nI_lt (a := 200) (by omega) (by omega)
      refine mw_iload_n dX7_debt_28 rfl ?_
      refine mw_sipush (v := 200) dX7_debt_29 (by decide) ?_
      refine mw_icmp_gt (tgt := 55) dX7_debt_32 (by decide) (fun h32 => ?_) (fun h32 => ?_)
      · skip
        exact s55 k m _ (by omega) hm hF (by rw [if_neg (by omega), ← hR]; rfl)
      · skip
        exact absurd g h32
    | succ f ih =>
      intro k m hk hm hF hR
      have g : ¬ (200 : Int32) < nI k := nI_nlt (a := 200) (by omega) (by decide)
      have e1 : m (o + 1) 1 = nI n := by rw [hm, mHours_lo (by decide) (by decide) (by decide) (by decide) (by decide) (by decide), hn]
      have e5 : m (o + 1) 5 = nI t := by rw [hm, mHours_lo (by decide) (by decide) (by decide) (by decide) (by decide) (by decide), ht]
      have tl : tail66 A (m (o + 1)) := by rw [hm]; exact mHours_hi hn8 k
      have el : lwM (m (o + 1)) 0 t = lw := (lwM_congr tl).trans hl
      have eo : m (o + 1) (26 + 5 * a + 4) = mHours lw n A k (26 + 5 * a + 4) := by rw [hm]
      simp only [fndK] at hR
      refine mw_iload_n dX7_debt_28 rfl ?_
      refine mw_sipush (v := 200) dX7_debt_29 (by decide) ?_
      refine mw_icmp_gt (tgt := 55) dX7_debt_32 (by decide) (fun h32 => ?_) (fun h32 => ?_)
      · skip
        first
          | exact absurd h32 g
          | exact s55 k m _ (by omega) hm hF (by rw [if_pos (by omega), ← hR, if_pos (by simpa using h42)])
          | fail "stop"
      · skip
        refine mw_aload_n dX7_debt_35 rfl ?_
        refine mw_iload_n dX7_debt_36 rfl ?_
        refine mw_iconst (v := 4) dX7_debt_37 (by decide) ?_
        refine mw_cVI (g := fX7_of) dX7_debt_38 ml_X7_86 mfX7_of (ok_X7_of hM (a := a) (w := 4) (by omega) (by decide)) (by assumption) rfl rfl (Nat.le_of_ble_eq_true rfl) ⟨by decide, by decide⟩ ⟨by decide, by decide⟩ ?_
        refine mw_iload_n dX7_debt_41 rfl ?_
        rw [eo]
        refine mw_icmp_ge (tgt := 55) dX7_debt_42 (by decide) (fun h42 => ?_) (fun h42 => ?_)
        · skip
          first
            | exact absurd h32 g
            | exact s55 k m _ (by omega) hm hF (by rw [if_pos (by omega), ← hR, if_pos (by simpa using h42)])
            | fail "stop"
        · skip
          refine mw_aload_n dX7_debt_45 rfl ?_
          refine mw_callV (g := fX7_hour) dX7_debt_46 ml_X7_160 mfX7_hour (ok_X7_hour hM e1 hn8 e5 ht14 (hx.congr tl)) (by assumption) rfl rfl (Nat.le_of_ble_eq_true rfl) ⟨by decide, by decide⟩ ⟨by decide, by decide⟩ (fun r S2 mi2 hp => ?_)
          obtain ⟨rfl, e2, hm3, hf3⟩ := hp
          rw [e2]
          rw [el, hm] at hm3
          refine mw_iincK (k := k) dX7_debt_49 rfl rfl (by decide) ?_
          refine mw_goto (tgt := 28) dX7_debt_52 (by decide) ?_
          refine MW.sub (by simp [lsub]) (ih (k + 1) _ (by omega) hm3 (hF.tr hf3) ?_)
          rw [if_neg (by simpa using h42)] at hR
          exact hR
  refine mw_aload_n dX7_debt_0 rfl ?_
  refine mw_iload_n dX7_debt_1 rfl ?_
  refine mw_cVI (g := fX7_isAttic) dX7_debt_2 ml_X7_132 mfX7_isAttic (ok_X7_isAttic hM) (by assumption) rfl rfl (Nat.le_of_ble_eq_true rfl) ⟨by decide, by decide⟩ ⟨by decide, by decide⟩ ?_
  rw [en]
  refine mw_if_eqB (tgt := 19) dX7_debt_5 (by decide) (fun h5 => ?_) (fun h5 => ?_)
  · skip
    refine mw_ldc dX7_debt_19 cn_X7_127 ?_
    exact mw_iret dX7_debt_21 rfl (by decide) (by decide) (by rw [mDebt, if_neg (by grind)]; exact ⟨rfl, rfl, rfl, z⟩)
  · skip
    refine mw_iload_n dX7_debt_8 rfl ?_
    refine mw_iconst (v := 0) dX7_debt_9 (by decide) ?_
    refine mw_sipush (v := 9999) dX7_debt_10 (by decide) ?_
    refine mw_cSI (g := fX7_in) dX7_debt_13 ml_X7_78 mfX7_in (ok_X7_in) rfl rfl (Nat.le_of_ble_eq_true rfl) ⟨by decide, by decide⟩ ⟨by decide, by decide⟩ ?_
    refine mw_if_neB (tgt := 22) dX7_debt_16 (by decide) (fun h16 => ?_) (fun h16 => ?_)
    · skip
      refine mw_aload_n dX7_debt_22 rfl ?_
      refine mw_cVV (g := fX7_thinks) dX7_debt_23 ml_X7_177 mfX7_thinks (ok_X7_thinks hM) (by assumption) rfl rfl (Nat.le_of_ble_eq_true rfl) ⟨by decide, by decide⟩ ⟨by decide, by decide⟩ ?_
      refine mw_iconst (v := 0) dX7_debt_26 (by decide) ?_
      refine mw_istN 3 dX7_debt_27 rfl (by decide) ?_
      obtain ⟨a, han, hv⟩ := inAt h5 hn8
      have gg := go a han 201 0 (m_cpy mi (o + 1) (o + 3) 0 0 1438) rfl (thk_now.trans hA) (FrM.rf _ _) (by rw [mDebt, if_pos ⟨h5, h16⟩, hv, nI_clamp (by omega)])
      rw [← hv] at gg
      exact MW.sub (by simp [lsub, nI_0]) gg
    · skip
      refine mw_ldc dX7_debt_19 cn_X7_127 ?_
      exact mw_iret dX7_debt_21 rfl (by decide) (by decide) (by rw [mDebt, if_neg (by grind)]; exact ⟨rfl, rfl, rfl, z⟩)
def mRises (lw : LawT) (A : Nat → Int32) (n : Nat) (v y : Int32) : Int32 := if (0 ≤ v ∧ v ≤ nI n - 1) ∧ (0 ≤ y ∧ y ≤ 7) then fndK (fun k => decide (rSees (mHours lw n A k) v.toNatClampNeg >>> (y &&& 31) &&& 1 ≠ 0)) 201 0 else BADi
theorem dX7_rises_0 : decode fX7_rises.2.1 0 = .ok (.aload_n 0, 1) := by decide +kernel
theorem dX7_rises_1 : decode fX7_rises.2.1 1 = .ok (.iload_n 1, 1) := by decide +kernel
theorem dX7_rises_2 : decode fX7_rises.2.1 2 = .ok (.invokevirtual 132, 3) := by decide +kernel
theorem dX7_rises_5 : decode fX7_rises.2.1 5 = .ok (.ifCond .eq 10, 3) := by decide +kernel
theorem dX7_rises_8 : decode fX7_rises.2.1 8 = .ok (.iload_n 2, 1) := by decide +kernel
theorem dX7_rises_9 : decode fX7_rises.2.1 9 = .ok (.invokestatic 145, 3) := by decide +kernel
theorem dX7_rises_12 : decode fX7_rises.2.1 12 = .ok (.ifCond .ne 6, 3) := by decide +kernel
theorem dX7_rises_15 : decode fX7_rises.2.1 15 = .ok (.ldc 127, 2) := by decide +kernel
theorem dX7_rises_17 : decode fX7_rises.2.1 17 = .ok (.ireturn, 1) := by decide +kernel
theorem dX7_rises_18 : decode fX7_rises.2.1 18 = .ok (.aload_n 0, 1) := by decide +kernel
theorem dX7_rises_19 : decode fX7_rises.2.1 19 = .ok (.invokevirtual 177, 3) := by decide +kernel
theorem dX7_rises_22 : decode fX7_rises.2.1 22 = .ok (.iconst 0, 1) := by decide +kernel
theorem dX7_rises_23 : decode fX7_rises.2.1 23 = .ok (.istore_n 3, 1) := by decide +kernel
theorem dX7_rises_24 : decode fX7_rises.2.1 24 = .ok (.iload_n 3, 1) := by decide +kernel
theorem dX7_rises_25 : decode fX7_rises.2.1 25 = .ok (.sipush 200, 3) := by decide +kernel
theorem dX7_rises_28 : decode fX7_rises.2.1 28 = .ok (.if_icmp .gt 25, 3) := by decide +kernel
theorem dX7_rises_31 : decode fX7_rises.2.1 31 = .ok (.aload_n 0, 1) := by decide +kernel
theorem dX7_rises_32 : decode fX7_rises.2.1 32 = .ok (.iload_n 1, 1) := by decide +kernel
theorem dX7_rises_33 : decode fX7_rises.2.1 33 = .ok (.invokevirtual 104, 3) := by decide +kernel
theorem dX7_rises_36 : decode fX7_rises.2.1 36 = .ok (.iload_n 2, 1) := by decide +kernel
theorem dX7_rises_37 : decode fX7_rises.2.1 37 = .ok (.ishr, 1) := by decide +kernel
theorem dX7_rises_38 : decode fX7_rises.2.1 38 = .ok (.iconst 1, 1) := by decide +kernel
theorem dX7_rises_39 : decode fX7_rises.2.1 39 = .ok (.iand, 1) := by decide +kernel
theorem dX7_rises_40 : decode fX7_rises.2.1 40 = .ok (.ifCond .ne 13, 3) := by decide +kernel
theorem dX7_rises_43 : decode fX7_rises.2.1 43 = .ok (.aload_n 0, 1) := by decide +kernel
theorem dX7_rises_44 : decode fX7_rises.2.1 44 = .ok (.invokevirtual 160, 3) := by decide +kernel
theorem dX7_rises_47 : decode fX7_rises.2.1 47 = .ok (.iinc 3 1, 3) := by decide +kernel
theorem dX7_rises_50 : decode fX7_rises.2.1 50 = .ok (.goto (-26), 3) := by decide +kernel
theorem dX7_rises_53 : decode fX7_rises.2.1 53 = .ok (.aload_n 0, 1) := by decide +kernel
theorem dX7_rises_54 : decode fX7_rises.2.1 54 = .ok (.invokevirtual 180, 3) := by decide +kernel
theorem dX7_rises_57 : decode fX7_rises.2.1 57 = .ok (.iload_n 3, 1) := by decide +kernel
theorem dX7_rises_58 : decode fX7_rises.2.1 58 = .ok (.sipush 200, 3) := by decide +kernel
theorem dX7_rises_61 : decode fX7_rises.2.1 61 = .ok (.if_icmp .le 8, 3) := by decide +kernel
theorem dX7_rises_64 : decode fX7_rises.2.1 64 = .ok (.ldc 172, 2) := by decide +kernel
theorem dX7_rises_66 : decode fX7_rises.2.1 66 = .ok (.goto 4, 3) := by decide +kernel
theorem dX7_rises_69 : decode fX7_rises.2.1 69 = .ok (.iload_n 3, 1) := by decide +kernel
theorem dX7_rises_70 : decode fX7_rises.2.1 70 = .ok (.ireturn, 1) := by decide +kernel
set_option maxRecDepth 100000 in
set_option maxHeartbeats 4000000 in
theorem ok_X7_rises {X : Xb} {S : Sg} {mi : Mem} {o n t : Nat} {A : Nat → Int32} {lw : LawT} {v y : Int32} (hM : MdA S o) (hn8 : n ≤ 8) (hA : mi (o + 1) = A) (hn : A 1 = nI n) (ht : A 5 = nI t) (ht14 : t ≤ 14) (hx : MtOk A t) (hl : lwM A 0 t = lw) : Ok 7 0 0 fX7_rises X [rf X o, .int v, .int y] S mi (PK S mi o (mRises lw A n v y)) := by
  refine Ok.go [some (rf X o), some (.int v), some (.int y), none] (by decide) (by simp [Value.category]) (Nat.le_of_ble_eq_true rfl) rfl ?_
  obtain ⟨k_o, ⟨r_o_now, k_o_now⟩, ⟨r_o_image, k_o_image⟩, ⟨r_o_aside, k_o_aside⟩, ⟨r_o_seen, k_o_seen⟩, ⟨r_o_unlike, k_o_unlike⟩, ⟨r_o_tape, k_o_tape⟩, ⟨r_o_keys, k_o_keys⟩, ⟨r_o_keyAt, k_o_keyAt⟩, ⟨r_o_code, k_o_code⟩, ⟨r_o_waits, k_o_waits⟩, ⟨r_o_tested, k_o_tested⟩, ⟨r_o_stack, k_o_stack⟩, ⟨r_o_facts, k_o_facts⟩, ⟨r_o_sorts, k_o_sorts⟩, ⟨r_o_sizes, k_o_sizes⟩, ⟨r_o_cells, k_o_cells⟩, ⟨r_o_holds, k_o_holds⟩, ⟨r_o_holdsA, k_o_holdsA⟩, ⟨r_o_holdsB, k_o_holdsB⟩, ⟨r_o_heldCells, k_o_heldCells⟩, ⟨r_o_moved, k_o_moved⟩, ⟨r_o_tells, k_o_tells⟩⟩ := id hM
  have en : mi (o + 1) 1 = nI n := by rw [hA, hn]
  have z : FrK o mi mi := fun _ _ _ _ _ => rfl
  have s53 : ∀ k m (u : Int32), k ≤ 201 → m (o + 1) = mHours lw n A k → FrM o (m_cpy mi (o + 1) (o + 3) 0 0 1438) m → (if k ≤ 200 then nI k else NONEi) = mRises lw A n v y → MW X fX7_rises (rmOf 7 0 0) 0 0 53 [some (rf X o), some (.int u), some (.int y), some (.int (nI k))] [] S m (mQ X 0 0 (PK S mi o (mRises lw A n v y))) := by
    intro k m u hk hm hF hR
    have b := thk_back hF (by rw [hm, hA]; exact mHours_hi hn8 k)
    refine mw_aload_n dX7_rises_53 rfl ?_
    refine mw_cVV (g := fX7_putsBack) dX7_rises_54 ml_X7_180 mfX7_putsBack (ok_X7_putsBack hM) (by assumption) rfl rfl (Nat.le_of_ble_eq_true rfl) ⟨by decide, by decide⟩ ⟨by decide, by decide⟩ ?_
    refine mw_iload_n dX7_rises_57 rfl ?_
    refine mw_sipush (v := 200) dX7_rises_58 (by decide) ?_
    refine mw_icmp_le (tgt := 69) dX7_rises_61 (by decide) (fun h61 => ?_) (fun h61 => ?_)
    · skip
      refine mw_iload_n dX7_rises_69 rfl ?_
      exact mw_iret dX7_rises_70 rfl (by decide) (by decide) (by first | exact ⟨by rw [← hR, if_pos (by rcases Nat.lt_or_ge 200 k with g | g; exact absurd h61 (Int32.not_le.mpr (nI_lt (a := 200) g (by omega))); exact g)], rfl, b⟩ | exact ⟨by rw [← hR, if_neg (fun g => h61 (nI_le (b := 200) g (by decide)))], rfl, b⟩ | fail "leaf")
    · skip
      refine mw_ldc dX7_rises_64 cn_X7_172 ?_
      refine mw_goto (tgt := 70) dX7_rises_66 (by decide) ?_
      exact mw_iret dX7_rises_70 rfl (by decide) (by decide) (by first | exact ⟨by rw [← hR, if_pos (by rcases Nat.lt_or_ge 200 k with g | g; exact absurd h61 (Int32.not_le.mpr (nI_lt (a := 200) g (by omega))); exact g)], rfl, b⟩ | exact ⟨by rw [← hR, if_neg (fun g => h61 (nI_le (b := 200) g (by decide)))], rfl, b⟩ | fail "leaf")
  have go : ∀ a, a < n → ∀ f k m, f + k = 201 → m (o + 1) = mHours lw n A k → FrM o (m_cpy mi (o + 1) (o + 3) 0 0 1438) m → fndK (fun k => decide (rSees (mHours lw n A k) a >>> (y &&& 31) &&& 1 ≠ 0)) f k = mRises lw A n v y → MW X fX7_rises (rmOf 7 0 0) 0 0 24 [some (rf X o), some (.int (nI a)), some (.int y), some (.int (nI k))] [] S m (mQ X 0 0 (PK S mi o (mRises lw A n v y))) := by
    intro a han f
    induction f with
    | zero =>
      intro k m hk hm hF hR
      have g : (200 : Int32) < nI k := nI_lt (a := 200) (by omega) (by omega)
      refine mw_iload_n dX7_rises_24 rfl ?_
      refine mw_sipush (v := 200) dX7_rises_25 (by decide) ?_
      refine mw_icmp_gt (tgt := 53) dX7_rises_28 (by decide) (fun h28 => ?_) (fun h28 => ?_)
      · skip
        exact s53 k m _ (by omega) hm hF (by rw [if_neg (by omega), ← hR]; rfl)
      · skip
        exact absurd g h28
    | succ f ih =>
      intro k m hk hm hF hR
      have g : ¬ (200 : Int32) < nI k := nI_nlt (a := 200) (by omega) (by decide)
      have e1 : m (o + 1) 1 = nI n := by rw [hm, mHours_lo (by decide) (by decide) (by decide) (by decide) (by decide) (by decide), hn]
      have e5 : m (o + 1) 5 = nI t := by rw [hm, mHours_lo (by decide) (by decide) (by decide) (by decide) (by decide) (by decide), ht]
      have tl : tail66 A (m (o + 1)) := by rw [hm]; exact mHours_hi hn8 k
      have el : lwM (m (o + 1)) 0 t = lw := (lwM_congr tl).trans hl
      have eo : rSees (m (o + 1)) a = rSees (mHours lw n A k) a := by rw [hm]
      simp only [fndK] at hR
      refine mw_iload_n dX7_rises_24 rfl ?_
      refine mw_sipush (v := 200) dX7_rises_25 (by decide) ?_
      refine mw_icmp_gt (tgt := 53) dX7_rises_28 (by decide) (fun h28 => ?_) (fun h28 => ?_)
      · skip
        first
          | exact absurd h28 g
          | exact s53 k m _ (by omega) hm hF (by rw [if_pos (by omega), ← hR, if_pos (by simpa using h40)])
          | fail "stop"
      · skip
        refine mw_aload_n dX7_rises_31 rfl ?_
        refine mw_iload_n dX7_rises_32 rfl ?_
        refine mw_cVI (g := fX7_sees) dX7_rises_33 ml_X7_104 mfX7_sees (ok_X7_sees hM (a := a) (by omega)) (by assumption) rfl rfl (Nat.le_of_ble_eq_true rfl) ⟨by decide, by decide⟩ ⟨by decide, by decide⟩ ?_
        rw [eo]
        refine mw_iload_n dX7_rises_36 rfl ?_
        refine mw_ishr dX7_rises_37 ?_
        refine mw_iconst (v := 1) dX7_rises_38 (by decide) ?_
        refine mw_iand dX7_rises_39 ?_
        refine mw_if_ne (tgt := 53) dX7_rises_40 (by decide) (fun h40 => ?_) (fun h40 => ?_)
        · skip
          first
            | exact absurd h28 g
            | exact s53 k m _ (by omega) hm hF (by rw [if_pos (by omega), ← hR, if_pos (by simpa using h40)])
            | fail "stop"
        · skip
          refine mw_aload_n dX7_rises_43 rfl ?_
          refine mw_callV (g := fX7_hour) dX7_rises_44 ml_X7_160 mfX7_hour (ok_X7_hour hM e1 hn8 e5 ht14 (hx.congr tl)) (by assumption) rfl rfl (Nat.le_of_ble_eq_true rfl) ⟨by decide, by decide⟩ ⟨by decide, by decide⟩ (fun r S2 mi2 hp => ?_)
          obtain ⟨rfl, e2, hm3, hf3⟩ := hp
          rw [e2]
          rw [el, hm] at hm3
          refine mw_iincK (k := k) dX7_rises_47 rfl rfl (by decide) ?_
          refine mw_goto (tgt := 24) dX7_rises_50 (by decide) ?_
          refine MW.sub (by simp [lsub]) (ih (k + 1) _ (by omega) hm3 (hF.tr hf3) ?_)
          rw [if_neg (by simpa using h40)] at hR
          exact hR
  refine mw_aload_n dX7_rises_0 rfl ?_
  refine mw_iload_n dX7_rises_1 rfl ?_
  refine mw_cVI (g := fX7_isAttic) dX7_rises_2 ml_X7_132 mfX7_isAttic (ok_X7_isAttic hM) (by assumption) rfl rfl (Nat.le_of_ble_eq_true rfl) ⟨by decide, by decide⟩ ⟨by decide, by decide⟩ ?_
  rw [en]
  refine mw_if_eqB (tgt := 15) dX7_rises_5 (by decide) (fun h5 => ?_) (fun h5 => ?_)
  · skip
    refine mw_ldc dX7_rises_15 cn_X7_127 ?_
    exact mw_iret dX7_rises_17 rfl (by decide) (by decide) (by rw [mRises, if_neg (by grind)]; exact ⟨rfl, rfl, rfl, z⟩)
  · skip
    refine mw_iload_n dX7_rises_8 rfl ?_
    refine mw_cSI (g := fX7_isStar) dX7_rises_9 ml_X7_145 mfX7_isStar (ok_X7_isStar) rfl rfl (Nat.le_of_ble_eq_true rfl) ⟨by decide, by decide⟩ ⟨by decide, by decide⟩ ?_
    refine mw_if_neB (tgt := 18) dX7_rises_12 (by decide) (fun h12 => ?_) (fun h12 => ?_)
    · skip
      refine mw_aload_n dX7_rises_18 rfl ?_
      refine mw_cVV (g := fX7_thinks) dX7_rises_19 ml_X7_177 mfX7_thinks (ok_X7_thinks hM) (by assumption) rfl rfl (Nat.le_of_ble_eq_true rfl) ⟨by decide, by decide⟩ ⟨by decide, by decide⟩ ?_
      refine mw_iconst (v := 0) dX7_rises_22 (by decide) ?_
      refine mw_istN 3 dX7_rises_23 rfl (by decide) ?_
      obtain ⟨a, han, hv⟩ := inAt h5 hn8
      have gg := go a han 201 0 (m_cpy mi (o + 1) (o + 3) 0 0 1438) rfl (thk_now.trans hA) (FrM.rf _ _) (by rw [mRises, if_pos ⟨h5, h12⟩, hv, nI_clamp (by omega)])
      rw [← hv] at gg
      exact MW.sub (by simp [lsub, nI_0]) gg
    · skip
      refine mw_ldc dX7_rises_15 cn_X7_127 ?_
      exact mw_iret dX7_rises_17 rfl (by decide) (by decide) (by rw [mRises, if_neg (by grind)]; exact ⟨rfl, rfl, rfl, z⟩)
theorem in02 {v : Int32} (h : 0 ≤ v ∧ v ≤ 2) : ∃ q, q ≤ 2 ∧ v = nI q := by
  obtain ⟨q, h1, h2⟩ := in0100 (v := v) ⟨h.1, Int32.le_trans h.2 (by decide)⟩
  subst h2
  refine ⟨q, ?_, rfl⟩
  rcases Nat.lt_or_ge 2 q with g | g
  · exact absurd h.2 (Int32.not_le.mpr (nI_lt (a := 2) g (by omega)))
  · exact g
