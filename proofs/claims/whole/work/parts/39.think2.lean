/-! debt, rises -/
/-- the first k from k0 on, among so many, of which p holds -/
def fndK (p : Nat → Bool) : Nat → Nat → Int32
  | 0, _ => NONEi
  | f + 1, k => if p k then nI k else fndK p f (k + 1)
def sDebt (lw : LawT) (A : Nat → Int32) (n : Nat) (v y : Int32) : Int32 := if (0 ≤ v ∧ v ≤ nI n - 1) ∧ (0 ≤ y ∧ y ≤ 9999) then fndK (fun k => decide (y ≤ cHours lw n A k (26 + 5 * v.toNatClampNeg + 4))) 201 0 else BADi
theorem dX6_debt_0 : decode fX6_debt.2.1 0 = .ok (.aload_n 0, 1) := by decide +kernel
theorem dX6_debt_1 : decode fX6_debt.2.1 1 = .ok (.iload_n 1, 1) := by decide +kernel
theorem dX6_debt_2 : decode fX6_debt.2.1 2 = .ok (.invokevirtual 63, 3) := by decide +kernel
theorem dX6_debt_5 : decode fX6_debt.2.1 5 = .ok (.ifCond .eq 14, 3) := by decide +kernel
theorem dX6_debt_8 : decode fX6_debt.2.1 8 = .ok (.iload_n 2, 1) := by decide +kernel
theorem dX6_debt_9 : decode fX6_debt.2.1 9 = .ok (.iconst 0, 1) := by decide +kernel
theorem dX6_debt_10 : decode fX6_debt.2.1 10 = .ok (.sipush 9999, 3) := by decide +kernel
theorem dX6_debt_13 : decode fX6_debt.2.1 13 = .ok (.invokestatic 50, 3) := by decide +kernel
theorem dX6_debt_16 : decode fX6_debt.2.1 16 = .ok (.ifCond .ne 6, 3) := by decide +kernel
theorem dX6_debt_19 : decode fX6_debt.2.1 19 = .ok (.ldc 58, 2) := by decide +kernel
theorem dX6_debt_21 : decode fX6_debt.2.1 21 = .ok (.ireturn, 1) := by decide +kernel
theorem dX6_debt_22 : decode fX6_debt.2.1 22 = .ok (.aload_n 0, 1) := by decide +kernel
theorem dX6_debt_23 : decode fX6_debt.2.1 23 = .ok (.getfield 16, 3) := by decide +kernel
theorem dX6_debt_26 : decode fX6_debt.2.1 26 = .ok (.aload_n 0, 1) := by decide +kernel
theorem dX6_debt_27 : decode fX6_debt.2.1 27 = .ok (.getfield 10, 3) := by decide +kernel
theorem dX6_debt_30 : decode fX6_debt.2.1 30 = .ok (.invokevirtual 178, 3) := by decide +kernel
theorem dX6_debt_33 : decode fX6_debt.2.1 33 = .ok (.iconst 0, 1) := by decide +kernel
theorem dX6_debt_34 : decode fX6_debt.2.1 34 = .ok (.istore_n 3, 1) := by decide +kernel
theorem dX6_debt_35 : decode fX6_debt.2.1 35 = .ok (.iload_n 3, 1) := by decide +kernel
theorem dX6_debt_36 : decode fX6_debt.2.1 36 = .ok (.sipush 200, 3) := by decide +kernel
theorem dX6_debt_39 : decode fX6_debt.2.1 39 = .ok (.if_icmp .gt 34, 3) := by decide +kernel
theorem dX6_debt_42 : decode fX6_debt.2.1 42 = .ok (.aload_n 0, 1) := by decide +kernel
theorem dX6_debt_43 : decode fX6_debt.2.1 43 = .ok (.getfield 16, 3) := by decide +kernel
theorem dX6_debt_46 : decode fX6_debt.2.1 46 = .ok (.getfield 66, 3) := by decide +kernel
theorem dX6_debt_49 : decode fX6_debt.2.1 49 = .ok (.iload_n 1, 1) := by decide +kernel
theorem dX6_debt_50 : decode fX6_debt.2.1 50 = .ok (.aaload, 1) := by decide +kernel
theorem dX6_debt_51 : decode fX6_debt.2.1 51 = .ok (.getfield 85, 3) := by decide +kernel
theorem dX6_debt_54 : decode fX6_debt.2.1 54 = .ok (.iload_n 2, 1) := by decide +kernel
theorem dX6_debt_55 : decode fX6_debt.2.1 55 = .ok (.if_icmp .lt 5, 3) := by decide +kernel
theorem dX6_debt_58 : decode fX6_debt.2.1 58 = .ok (.iload_n 3, 1) := by decide +kernel
theorem dX6_debt_59 : decode fX6_debt.2.1 59 = .ok (.ireturn, 1) := by decide +kernel
theorem dX6_debt_60 : decode fX6_debt.2.1 60 = .ok (.aload_n 0, 1) := by decide +kernel
theorem dX6_debt_61 : decode fX6_debt.2.1 61 = .ok (.getfield 16, 3) := by decide +kernel
theorem dX6_debt_64 : decode fX6_debt.2.1 64 = .ok (.invokevirtual 151, 3) := by decide +kernel
theorem dX6_debt_67 : decode fX6_debt.2.1 67 = .ok (.iinc 3 1, 3) := by decide +kernel
theorem dX6_debt_70 : decode fX6_debt.2.1 70 = .ok (.goto (-35), 3) := by decide +kernel
theorem dX6_debt_73 : decode fX6_debt.2.1 73 = .ok (.ldc 182, 2) := by decide +kernel
theorem dX6_debt_75 : decode fX6_debt.2.1 75 = .ok (.ireturn, 1) := by decide +kernel
set_option maxRecDepth 100000 in
set_option maxHeartbeats 4000000 in
theorem ok_X6_debt {X : Xb} {S : Sg} {mi : Mem} {x n : Nat} {A : Nat → Int32} {lw : LawT} {v y : Int32} (hX : AsA S x) (hn8 : n ≤ 8) (hA : eqOn (26 + 5 * n) (tv mi (x + 1)) A) (hn : A 1 = nI n) (hx : TxOk S mi (x + 1) 0) (hl : lwC S mi (x + 1) 0 = lw) (hr : TxR S (x + 1)) : Ok 5 0 0 fX6_debt X [rf X x, .int v, .int y] S mi (PT S mi x (sDebt lw A n v y)) := by
  refine Ok.go [some (rf X x), some (.int v), some (.int y), none] (by decide) (by simp [Value.category]) (Nat.le_of_ble_eq_true rfl) rfl ?_
  obtain ⟨k_x, ⟨r_x_now, t_now⟩, ⟨r_x_thought, t_thought⟩, ⟨r_x_image, t_image⟩, ⟨r_x_tape, t_tape⟩, ⟨r_x_sheets, k_x_sheets⟩, ⟨r_x_slots, k_x_slots⟩, ⟨r_x_waiting, k_x_waiting⟩, ⟨r_x_diff, k_x_diff⟩, a_sheets, a_slots⟩ := id hX
  obtain ⟨k_t, ⟨r_t_home, k_t_home⟩, ⟨r_t_price, k_t_price⟩, ⟨r_t_attics, k_t_attics⟩, ⟨r_t_texts, k_t_texts⟩, ⟨r_t_counting, k_t_counting⟩, ⟨r_t_names, k_t_names⟩, ⟨r_t_pile, k_t_pile⟩, ⟨r_t_views, k_t_views⟩, a_t⟩ := id t_now
  have ec : mi (x + 1) 3 = nI n := by rw [show (3 : Nat) = tvF 1 from rfl, tv_0 hA (by decide) (by omega), hn]
  have z : FrT x mi mi := fun _ _ => rfl
  have hT2 : TwA (cpS S (x + 18) (x + 1) 14) (x + 18) := TwA.cp t_thought t_thought.2.2.2.2.1.2
  have nx : x ≠ x + 18 + 4 := by omega
  have k_x2 : Kd (cpS S (x + 18) (x + 1) 14) x 6 0 := k_x
  have r_x2 : (cpS S (x + 18) (x + 1) 14).2.2 x 1 = some (x + 18) := by show cpR S.2.2 (x + 18) (x + 1) 14 x 1 = _; simp only [cpR, nx, false_and, if_false]; exact r_x_thought
  obtain ⟨k_v, ⟨r_v_home, k_v_home⟩, ⟨r_v_price, k_v_price⟩, ⟨r_v_attics, k_v_attics⟩, ⟨r_v_texts, k_v_texts⟩, ⟨r_v_counting, k_v_counting⟩, ⟨r_v_names, k_v_names⟩, ⟨r_v_pile, k_v_pile⟩, ⟨r_v_views, k_v_views⟩, a_v⟩ := id hT2
  have go : ∀ a, a < n → v = nI a → (0 ≤ y ∧ y ≤ 9999) → ∀ m0, FrT x mi m0 → TxOk (cpS S (x + 18) (x + 1) 14) m0 (x + 18) 0 → lwC (cpS S (x + 18) (x + 1) 14) m0 (x + 18) 0 = lw → ∀ f k m, f + k = 201 → eqOn (26 + 5 * n) (tv m (x + 18)) (cHours lw n A k) → Frt (x + 18) m0 m → fndK (fun k => decide (y ≤ cHours lw n A k (26 + 5 * a + 4))) f k = sDebt lw A n v y → MW X fX6_debt (rmOf 5 0 0) 0 0 35 [some (rf X x), some (.int (nI a)), some (.int y), some (.int (nI k))] [] (cpS S (x + 18) (x + 1) 14) m (mQ X 0 0 (PT S mi x (sDebt lw A n v y))) := by
    intro a han hv hy m0 f0 x0 l0 f
    have hka := (a_v a (by omega)).2
    induction f with
    | zero =>
      intro k m hk h2 hF hR
      have g : (200 : Int32) < nI k := nI_lt (a := 200) (by omega) (by omega)
      refine mw_iload_n dX6_debt_35 rfl ?_
      refine mw_sipush (v := 200) dX6_debt_36 (by decide) ?_
      refine mw_icmp_gt (tgt := 73) dX6_debt_39 (by decide) (fun h39 => ?_) (fun h39 => ?_)
      · skip
        refine mw_ldc dX6_debt_73 cn_X6_182 ?_
        exact mw_iret dX6_debt_75 rfl (by decide) (by decide) (⟨by rw [← hR]; rfl, Or.inr rfl, f0.of hF⟩)
      · skip
        exact absurd g h39
    | succ f ih =>
      intro k m hk h2 hF hR
      have g : ¬ (200 : Int32) < nI k := nI_nlt (a := 200) (by omega) (by decide)
      have eo : m (x + 18 + 9 + a) 4 = cHours lw n A k (26 + 5 * a + 4) := tv_A h2 (by decide) (by omega)
      have hx2 := x0.fr hT2 hF
      have hl2 : lwC (cpS S (x + 18) (x + 1) 14) m (x + 18) 0 = lw := (lwC_fr hT2 x0 hF).trans l0
      have hn2 : cHours lw n A k 1 = nI n := by rw [cHours_lo (by decide) (by decide) (by decide) (by decide) (by decide) (by decide), hn]
      simp only [fndK] at hR
      refine mw_iload_n dX6_debt_35 rfl ?_
      refine mw_sipush (v := 200) dX6_debt_36 (by decide) ?_
      refine mw_icmp_gt (tgt := 73) dX6_debt_39 (by decide) (fun h39 => ?_) (fun h39 => ?_)
      · skip
        exact absurd h39 g
      · skip
        refine mw_aload_n dX6_debt_42 rfl ?_
        refine mw_getr dX6_debt_43 fl_X6_16 rfl (by assumption) (by assumption) ?_
        refine mw_getr dX6_debt_46 fl_X6_66 rfl (by assumption) (by assumption) ?_
        refine mw_iload_n dX6_debt_49 rfl ?_
        refine mw_aldK (k := a) dX6_debt_50 (by assumption) (by decide) (rfl) (by omega) (by decide) ((a_v a (by omega)).1) ?_
        refine mw_geti dX6_debt_51 fl_X6_85 rfl (hka) ?_
        refine mw_iload_n dX6_debt_54 rfl ?_
        rw [eo]
        refine mw_icmp_lt (tgt := 60) dX6_debt_55 (by decide) (fun h55 => ?_) (fun h55 => ?_)
        · skip
          refine mw_aload_n dX6_debt_60 rfl ?_
          refine mw_getr dX6_debt_61 fl_X6_16 rfl (by assumption) (by assumption) ?_
          refine mw_callV (g := fX5_passHour) dX6_debt_64 ml_X6_151 mfX5_passHour (ok_X5_passHour hT2 hn8 h2 hn2 hx2 hl2) (by assumption) rfl rfl (Nat.le_of_ble_eq_true rfl) ⟨by decide, by decide⟩ ⟨by decide, by decide⟩ (fun r S2 mi2 hp => ?_)
          obtain ⟨rfl, e1, e4, e5⟩ := hp
          rw [e1]
          refine mw_iincK (k := k) dX6_debt_67 rfl rfl (by decide) ?_
          refine mw_goto (tgt := 35) dX6_debt_70 (by decide) ?_
          refine MW.sub (by simp [lsub]) (ih (k + 1) _ (by omega) e4 (hF.tr e5) ?_)
          rw [if_neg (by simpa using Int32.not_le.mpr h55)] at hR
          exact hR
        · skip
          refine mw_iload_n dX6_debt_58 rfl ?_
          exact mw_iret dX6_debt_59 rfl (by decide) (by decide) (⟨by rw [if_pos (by simpa using Int32.not_lt.mp h55)] at hR; rw [← hR], Or.inr rfl, f0.of hF⟩)
  refine mw_aload_n dX6_debt_0 rfl ?_
  refine mw_iload_n dX6_debt_1 rfl ?_
  refine mw_cVI (g := fX6_isAttic) dX6_debt_2 ml_X6_63 mfX6_isAttic (ok_X6_isAttic hX ec) (by assumption) rfl rfl (Nat.le_of_ble_eq_true rfl) ⟨by decide, by decide⟩ ⟨by decide, by decide⟩ ?_
  refine mw_if_eqB (tgt := 19) dX6_debt_5 (by decide) (fun h5 => ?_) (fun h5 => ?_)
  · skip
    refine mw_ldc dX6_debt_19 cn_X6_58 ?_
    exact mw_iret dX6_debt_21 rfl (by decide) (by decide) (by rw [sDebt, if_neg (by grind)]; exact ⟨rfl, Or.inl rfl, z⟩)
  · skip
    refine mw_iload_n dX6_debt_8 rfl ?_
    refine mw_iconst (v := 0) dX6_debt_9 (by decide) ?_
    refine mw_sipush (v := 9999) dX6_debt_10 (by decide) ?_
    refine mw_cSI (g := fX6_within) dX6_debt_13 ml_X6_50 mfX6_within (ok_X6_within) rfl rfl (Nat.le_of_ble_eq_true rfl) ⟨by decide, by decide⟩ ⟨by decide, by decide⟩ ?_
    refine mw_if_neB (tgt := 22) dX6_debt_16 (by decide) (fun h16 => ?_) (fun h16 => ?_)
    · skip
      refine mw_aload_n dX6_debt_22 rfl ?_
      refine mw_getr dX6_debt_23 fl_X6_16 rfl (by assumption) (by assumption) ?_
      refine mw_aload_n dX6_debt_26 rfl ?_
      refine mw_getr dX6_debt_27 fl_X6_10 rfl (by assumption) (by assumption) ?_
      refine mw_callV (g := fX5_takeAfter) dX6_debt_30 ml_X6_178 mfX5_takeAfter (ok_X5_takeAfter (n := n) t_thought t_now (by omega) ec hn8 hr) (t_thought.1) rfl rfl (Nat.le_of_ble_eq_true rfl) ⟨by decide, by decide⟩ ⟨by decide, by decide⟩ (fun r S2 mi2 hp => ?_)
      obtain ⟨rfl, e1, e2, e3, e4⟩ := hp
      rw [e1]
      obtain ⟨a, han, hv⟩ := inAt h5 hn8
      obtain ⟨x0, l0⟩ := take_tx (j := 0) t_thought (by decide) hx e2 e4
      refine mw_iconst (v := 0) dX6_debt_33 (by decide) ?_
      refine mw_istN 3 dX6_debt_34 rfl (by decide) ?_
      have gg := go a han hv h16 _ (fun a ha => e2 a (by omega)) x0 (l0.trans hl) 201 0 _ rfl (e3.tr hA) (Frt.rf _ _) (by rw [sDebt, if_pos ⟨h5, h16⟩, hv, nI_clamp (by omega)])
      rw [← hv] at gg
      exact MW.sub (by simp [lsub, nI_0]) gg
    · skip
      refine mw_ldc dX6_debt_19 cn_X6_58 ?_
      exact mw_iret dX6_debt_21 rfl (by decide) (by decide) (by rw [sDebt, if_neg (by grind)]; exact ⟨rfl, Or.inl rfl, z⟩)
def sRises (lw : LawT) (A : Nat → Int32) (n : Nat) (v y : Int32) : Int32 := if (0 ≤ v ∧ v ≤ nI n - 1) ∧ (0 ≤ y ∧ y ≤ 7) then fndK (fun k => decide (rSee (cHours lw n A k) v.toNatClampNeg >>> (y &&& 31) &&& 1 = 1)) 201 0 else BADi
theorem dX6_rises_0 : decode fX6_rises.2.1 0 = .ok (.aload_n 0, 1) := by decide +kernel
theorem dX6_rises_1 : decode fX6_rises.2.1 1 = .ok (.iload_n 1, 1) := by decide +kernel
theorem dX6_rises_2 : decode fX6_rises.2.1 2 = .ok (.invokevirtual 63, 3) := by decide +kernel
theorem dX6_rises_5 : decode fX6_rises.2.1 5 = .ok (.ifCond .eq 10, 3) := by decide +kernel
theorem dX6_rises_8 : decode fX6_rises.2.1 8 = .ok (.iload_n 2, 1) := by decide +kernel
theorem dX6_rises_9 : decode fX6_rises.2.1 9 = .ok (.invokestatic 102, 3) := by decide +kernel
theorem dX6_rises_12 : decode fX6_rises.2.1 12 = .ok (.ifCond .ne 6, 3) := by decide +kernel
theorem dX6_rises_15 : decode fX6_rises.2.1 15 = .ok (.ldc 58, 2) := by decide +kernel
theorem dX6_rises_17 : decode fX6_rises.2.1 17 = .ok (.ireturn, 1) := by decide +kernel
theorem dX6_rises_18 : decode fX6_rises.2.1 18 = .ok (.aload_n 0, 1) := by decide +kernel
theorem dX6_rises_19 : decode fX6_rises.2.1 19 = .ok (.getfield 16, 3) := by decide +kernel
theorem dX6_rises_22 : decode fX6_rises.2.1 22 = .ok (.aload_n 0, 1) := by decide +kernel
theorem dX6_rises_23 : decode fX6_rises.2.1 23 = .ok (.getfield 10, 3) := by decide +kernel
theorem dX6_rises_26 : decode fX6_rises.2.1 26 = .ok (.invokevirtual 178, 3) := by decide +kernel
theorem dX6_rises_29 : decode fX6_rises.2.1 29 = .ok (.iconst 0, 1) := by decide +kernel
theorem dX6_rises_30 : decode fX6_rises.2.1 30 = .ok (.istore_n 3, 1) := by decide +kernel
theorem dX6_rises_31 : decode fX6_rises.2.1 31 = .ok (.iload_n 3, 1) := by decide +kernel
theorem dX6_rises_32 : decode fX6_rises.2.1 32 = .ok (.sipush 200, 3) := by decide +kernel
theorem dX6_rises_35 : decode fX6_rises.2.1 35 = .ok (.if_icmp .gt 42, 3) := by decide +kernel
theorem dX6_rises_38 : decode fX6_rises.2.1 38 = .ok (.aload_n 0, 1) := by decide +kernel
theorem dX6_rises_39 : decode fX6_rises.2.1 39 = .ok (.getfield 16, 3) := by decide +kernel
theorem dX6_rises_42 : decode fX6_rises.2.1 42 = .ok (.aload_n 0, 1) := by decide +kernel
theorem dX6_rises_43 : decode fX6_rises.2.1 43 = .ok (.getfield 16, 3) := by decide +kernel
theorem dX6_rises_46 : decode fX6_rises.2.1 46 = .ok (.getfield 66, 3) := by decide +kernel
theorem dX6_rises_49 : decode fX6_rises.2.1 49 = .ok (.iload_n 1, 1) := by decide +kernel
theorem dX6_rises_50 : decode fX6_rises.2.1 50 = .ok (.aaload, 1) := by decide +kernel
theorem dX6_rises_51 : decode fX6_rises.2.1 51 = .ok (.invokevirtual 92, 3) := by decide +kernel
theorem dX6_rises_54 : decode fX6_rises.2.1 54 = .ok (.iload_n 2, 1) := by decide +kernel
theorem dX6_rises_55 : decode fX6_rises.2.1 55 = .ok (.ishr, 1) := by decide +kernel
theorem dX6_rises_56 : decode fX6_rises.2.1 56 = .ok (.iconst 1, 1) := by decide +kernel
theorem dX6_rises_57 : decode fX6_rises.2.1 57 = .ok (.iand, 1) := by decide +kernel
theorem dX6_rises_58 : decode fX6_rises.2.1 58 = .ok (.iconst 1, 1) := by decide +kernel
theorem dX6_rises_59 : decode fX6_rises.2.1 59 = .ok (.if_icmp .ne 5, 3) := by decide +kernel
theorem dX6_rises_62 : decode fX6_rises.2.1 62 = .ok (.iload_n 3, 1) := by decide +kernel
theorem dX6_rises_63 : decode fX6_rises.2.1 63 = .ok (.ireturn, 1) := by decide +kernel
theorem dX6_rises_64 : decode fX6_rises.2.1 64 = .ok (.aload_n 0, 1) := by decide +kernel
theorem dX6_rises_65 : decode fX6_rises.2.1 65 = .ok (.getfield 16, 3) := by decide +kernel
theorem dX6_rises_68 : decode fX6_rises.2.1 68 = .ok (.invokevirtual 151, 3) := by decide +kernel
theorem dX6_rises_71 : decode fX6_rises.2.1 71 = .ok (.iinc 3 1, 3) := by decide +kernel
theorem dX6_rises_74 : decode fX6_rises.2.1 74 = .ok (.goto (-43), 3) := by decide +kernel
theorem dX6_rises_77 : decode fX6_rises.2.1 77 = .ok (.ldc 182, 2) := by decide +kernel
theorem dX6_rises_79 : decode fX6_rises.2.1 79 = .ok (.ireturn, 1) := by decide +kernel
set_option maxRecDepth 100000 in
set_option maxHeartbeats 4000000 in
theorem ok_X6_rises {X : Xb} {S : Sg} {mi : Mem} {x n : Nat} {A : Nat → Int32} {lw : LawT} {v y : Int32} (hX : AsA S x) (hn8 : n ≤ 8) (hA : eqOn (26 + 5 * n) (tv mi (x + 1)) A) (hn : A 1 = nI n) (hx : TxOk S mi (x + 1) 0) (hl : lwC S mi (x + 1) 0 = lw) (hr : TxR S (x + 1)) : Ok 5 0 0 fX6_rises X [rf X x, .int v, .int y] S mi (PT S mi x (sRises lw A n v y)) := by
  refine Ok.go [some (rf X x), some (.int v), some (.int y), none] (by decide) (by simp [Value.category]) (Nat.le_of_ble_eq_true rfl) rfl ?_
  obtain ⟨k_x, ⟨r_x_now, t_now⟩, ⟨r_x_thought, t_thought⟩, ⟨r_x_image, t_image⟩, ⟨r_x_tape, t_tape⟩, ⟨r_x_sheets, k_x_sheets⟩, ⟨r_x_slots, k_x_slots⟩, ⟨r_x_waiting, k_x_waiting⟩, ⟨r_x_diff, k_x_diff⟩, a_sheets, a_slots⟩ := id hX
  obtain ⟨k_t, ⟨r_t_home, k_t_home⟩, ⟨r_t_price, k_t_price⟩, ⟨r_t_attics, k_t_attics⟩, ⟨r_t_texts, k_t_texts⟩, ⟨r_t_counting, k_t_counting⟩, ⟨r_t_names, k_t_names⟩, ⟨r_t_pile, k_t_pile⟩, ⟨r_t_views, k_t_views⟩, a_t⟩ := id t_now
  have ec : mi (x + 1) 3 = nI n := by rw [show (3 : Nat) = tvF 1 from rfl, tv_0 hA (by decide) (by omega), hn]
  have z : FrT x mi mi := fun _ _ => rfl
  have hT2 : TwA (cpS S (x + 18) (x + 1) 14) (x + 18) := TwA.cp t_thought t_thought.2.2.2.2.1.2
  have nx : x ≠ x + 18 + 4 := by omega
  have k_x2 : Kd (cpS S (x + 18) (x + 1) 14) x 6 0 := k_x
  have r_x2 : (cpS S (x + 18) (x + 1) 14).2.2 x 1 = some (x + 18) := by show cpR S.2.2 (x + 18) (x + 1) 14 x 1 = _; simp only [cpR, nx, false_and, if_false]; exact r_x_thought
  obtain ⟨k_v, ⟨r_v_home, k_v_home⟩, ⟨r_v_price, k_v_price⟩, ⟨r_v_attics, k_v_attics⟩, ⟨r_v_texts, k_v_texts⟩, ⟨r_v_counting, k_v_counting⟩, ⟨r_v_names, k_v_names⟩, ⟨r_v_pile, k_v_pile⟩, ⟨r_v_views, k_v_views⟩, a_v⟩ := id hT2
  have go : ∀ a, a < n → v = nI a → ∀ m0, FrT x mi m0 → TxOk (cpS S (x + 18) (x + 1) 14) m0 (x + 18) 0 → lwC (cpS S (x + 18) (x + 1) 14) m0 (x + 18) 0 = lw → ∀ f k m, f + k = 201 → eqOn (26 + 5 * n) (tv m (x + 18)) (cHours lw n A k) → Frt (x + 18) m0 m → fndK (fun k => decide (rSee (cHours lw n A k) a >>> (y &&& 31) &&& 1 = 1)) f k = sRises lw A n v y → MW X fX6_rises (rmOf 5 0 0) 0 0 31 [some (rf X x), some (.int (nI a)), some (.int y), some (.int (nI k))] [] (cpS S (x + 18) (x + 1) 14) m (mQ X 0 0 (PT S mi x (sRises lw A n v y))) := by
    intro a han hv m0 f0 x0 l0 f
    have hka := (a_v a (by omega)).2
    induction f with
    | zero =>
      intro k m hk h2 hF hR
      have g : (200 : Int32) < nI k := nI_lt (a := 200) (by omega) (by omega)
      refine mw_iload_n dX6_rises_31 rfl ?_
      refine mw_sipush (v := 200) dX6_rises_32 (by decide) ?_
      refine mw_icmp_gt (tgt := 77) dX6_rises_35 (by decide) (fun h35 => ?_) (fun h35 => ?_)
      · skip
        refine mw_ldc dX6_rises_77 cn_X6_182 ?_
        exact mw_iret dX6_rises_79 rfl (by decide) (by decide) (⟨by rw [← hR]; rfl, Or.inr rfl, f0.of hF⟩)
      · skip
        exact absurd g h35
    | succ f ih =>
      intro k m hk h2 hF hR
      have g : ¬ (200 : Int32) < nI k := nI_nlt (a := 200) (by omega) (by decide)
      have eo := rSee_of (a := a) h2 (by omega)
      unfold cSeesQ at eo
      have hx2 := x0.fr hT2 hF
      have hl2 : lwC (cpS S (x + 18) (x + 1) 14) m (x + 18) 0 = lw := (lwC_fr hT2 x0 hF).trans l0
      have hn2 : cHours lw n A k 1 = nI n := by rw [cHours_lo (by decide) (by decide) (by decide) (by decide) (by decide) (by decide), hn]
      simp only [fndK] at hR
      refine mw_iload_n dX6_rises_31 rfl ?_
      refine mw_sipush (v := 200) dX6_rises_32 (by decide) ?_
      refine mw_icmp_gt (tgt := 77) dX6_rises_35 (by decide) (fun h35 => ?_) (fun h35 => ?_)
      · skip
        exact absurd h35 g
      · skip
        refine mw_aload_n dX6_rises_38 rfl ?_
        refine mw_getr dX6_rises_39 fl_X6_16 rfl (by assumption) (by assumption) ?_
        refine mw_aload_n dX6_rises_42 rfl ?_
        refine mw_getr dX6_rises_43 fl_X6_16 rfl (by assumption) (by assumption) ?_
        refine mw_getr dX6_rises_46 fl_X6_66 rfl (by assumption) (by assumption) ?_
        refine mw_iload_n dX6_rises_49 rfl ?_
        refine mw_aldK (k := a) dX6_rises_50 (by assumption) (by decide) (rfl) (by omega) (by decide) ((a_v a (by omega)).1) ?_
        refine mw_cVI (g := fX5_seenBy) dX6_rises_51 ml_X6_92 mfX5_seenBy (ok_X5_seenBy hT2 hka) (by assumption) rfl rfl (Nat.le_of_ble_eq_true rfl) ⟨by decide, by decide⟩ ⟨by decide, by decide⟩ ?_
        rw [eo]
        refine mw_iload_n dX6_rises_54 rfl ?_
        refine mw_ishr dX6_rises_55 ?_
        refine mw_iconst (v := 1) dX6_rises_56 (by decide) ?_
        refine mw_iand dX6_rises_57 ?_
        refine mw_iconst (v := 1) dX6_rises_58 (by decide) ?_
        refine mw_icmp_ne (tgt := 64) dX6_rises_59 (by decide) (fun h59 => ?_) (fun h59 => ?_)
        · skip
          refine mw_aload_n dX6_rises_64 rfl ?_
          refine mw_getr dX6_rises_65 fl_X6_16 rfl (by assumption) (by assumption) ?_
          refine mw_callV (g := fX5_passHour) dX6_rises_68 ml_X6_151 mfX5_passHour (ok_X5_passHour hT2 hn8 h2 hn2 hx2 hl2) (by assumption) rfl rfl (Nat.le_of_ble_eq_true rfl) ⟨by decide, by decide⟩ ⟨by decide, by decide⟩ (fun r S2 mi2 hp => ?_)
          obtain ⟨rfl, e1, e4, e5⟩ := hp
          rw [e1]
          refine mw_iincK (k := k) dX6_rises_71 rfl rfl (by decide) ?_
          refine mw_goto (tgt := 31) dX6_rises_74 (by decide) ?_
          refine MW.sub (by simp [lsub]) (ih (k + 1) _ (by omega) e4 (hF.tr e5) ?_)
          rw [if_neg (by simpa using h59)] at hR
          exact hR
        · skip
          refine mw_iload_n dX6_rises_62 rfl ?_
          exact mw_iret dX6_rises_63 rfl (by decide) (by decide) (⟨by rw [if_pos (by simpa using h59)] at hR; rw [← hR], Or.inr rfl, f0.of hF⟩)
  refine mw_aload_n dX6_rises_0 rfl ?_
  refine mw_iload_n dX6_rises_1 rfl ?_
  refine mw_cVI (g := fX6_isAttic) dX6_rises_2 ml_X6_63 mfX6_isAttic (ok_X6_isAttic hX ec) (by assumption) rfl rfl (Nat.le_of_ble_eq_true rfl) ⟨by decide, by decide⟩ ⟨by decide, by decide⟩ ?_
  refine mw_if_eqB (tgt := 15) dX6_rises_5 (by decide) (fun h5 => ?_) (fun h5 => ?_)
  · skip
    refine mw_ldc dX6_rises_15 cn_X6_58 ?_
    exact mw_iret dX6_rises_17 rfl (by decide) (by decide) (by rw [sRises, if_neg (by grind)]; exact ⟨rfl, Or.inl rfl, z⟩)
  · skip
    refine mw_iload_n dX6_rises_8 rfl ?_
    refine mw_cSI (g := fX6_isStar) dX6_rises_9 ml_X6_102 mfX6_isStar (ok_X6_isStar) rfl rfl (Nat.le_of_ble_eq_true rfl) ⟨by decide, by decide⟩ ⟨by decide, by decide⟩ ?_
    refine mw_if_neB (tgt := 18) dX6_rises_12 (by decide) (fun h12 => ?_) (fun h12 => ?_)
    · skip
      refine mw_aload_n dX6_rises_18 rfl ?_
      refine mw_getr dX6_rises_19 fl_X6_16 rfl (by assumption) (by assumption) ?_
      refine mw_aload_n dX6_rises_22 rfl ?_
      refine mw_getr dX6_rises_23 fl_X6_10 rfl (by assumption) (by assumption) ?_
      refine mw_callV (g := fX5_takeAfter) dX6_rises_26 ml_X6_178 mfX5_takeAfter (ok_X5_takeAfter (n := n) t_thought t_now (by omega) ec hn8 hr) (t_thought.1) rfl rfl (Nat.le_of_ble_eq_true rfl) ⟨by decide, by decide⟩ ⟨by decide, by decide⟩ (fun r S2 mi2 hp => ?_)
      obtain ⟨rfl, e1, e2, e3, e4⟩ := hp
      rw [e1]
      obtain ⟨a, han, hv⟩ := inAt h5 hn8
      obtain ⟨x0, l0⟩ := take_tx (j := 0) t_thought (by decide) hx e2 e4
      refine mw_iconst (v := 0) dX6_rises_29 (by decide) ?_
      refine mw_istN 3 dX6_rises_30 rfl (by decide) ?_
      have gg := go a han hv _ (fun a ha => e2 a (by omega)) x0 (l0.trans hl) 201 0 _ rfl (e3.tr hA) (Frt.rf _ _) (by rw [sRises, if_pos ⟨h5, h12⟩, hv, nI_clamp (by omega)])
      rw [← hv] at gg
      exact MW.sub (by simp [lsub, nI_0]) gg
    · skip
      refine mw_ldc dX6_rises_15 cn_X6_58 ?_
      exact mw_iret dX6_rises_17 rfl (by decide) (by decide) (by rw [sRises, if_neg (by grind)]; exact ⟨rfl, Or.inl rfl, z⟩)
