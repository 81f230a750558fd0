/-! Town: sums of rent, fee and fine -/
theorem gRun_wf2 {s : Nat → Int32} {n : Nat} (h : WfC s n) (nm nm' p p' : Nat → Int32) (hnm : ∀ k, k < n → ¬ s k < -4 → s k < 0 → nm (-1 - s k).toNatClampNeg = nm' (-1 - s k).toNatClampNeg) : ∀ k, k ≤ n → (gRun nm s p k).1 = gDep s k ∧ (gRun nm' s p' k).1 = gDep s k ∧ (∀ j, j < gDep s k → (gRun nm s p k).2 j = (gRun nm' s p' k).2 j) ∧ (0 < k → 0 < gDep s k)
  | 0, _ => ⟨rfl, rfl, fun j hj => absurd hj (Nat.not_lt_zero j), fun q => absurd q (Nat.lt_irrefl 0)⟩
  | k + 1, hk => by
    obtain ⟨i1, i2, i3, i4⟩ := gRun_wf2 h nm nm' p p' hnm k (by omega)
    have hw := h.2.2 k (by omega)
    have hd := gDep_le s k
    have hn := h.2.1
    by_cases c1 : s k < -4
    · by_cases c2 : s k = -33
      · have g1 := (hw c1).1 c2
        simp only [gRun, gStep, gDep, c2, show (-33 : Int32) < -4 from by decide, if_true, i1, i2, show ¬ gDep s k < 1 by omega, if_false]
        refine ⟨trivial, trivial, fun j hj => ?_, fun _ => by omega⟩
        simp only [upd, i3 (gDep s k - 1) (by omega)]
        by_cases hj2 : j = gDep s k - 1
        · simp [hj2]
        · simp [hj2, i3 j hj]
      · have g1 := (hw c1).2 c2
        simp only [gRun, gStep, gDep, c1, c2, if_true, i1, i2, show ¬ gDep s k < 2 by omega, if_false]
        refine ⟨trivial, trivial, fun j hj => ?_, fun _ => by omega⟩
        simp only [upd, i3 (gDep s k - 1) (by omega), i3 (gDep s k - 2) (by omega)]
        by_cases hj2 : j = gDep s k - 2
        · simp [hj2]
        · simp [hj2, i3 j (by omega)]
    · simp only [gRun, gStep, gDep, c1, i1, i2, show gDep s k < 96 by omega, if_true, if_false]
      refine ⟨trivial, trivial, fun j hj => ?_, fun _ => by omega⟩
      simp only [upd]
      by_cases hj2 : j = gDep s k
      · by_cases c3 : s k < 0
        · simp [hj2, c3, hnm k (by omega) c1 c3]
        · simp [hj2, c3]
      · simp [hj2, i3 j (by omega)]
/-- a law of two names -/
def Two (s : Nat → Int32) (n : Nat) : Prop := ∀ k, k < n → ¬ s k < -4 → s k < 0 → (-1 - s k).toNatClampNeg < 2
theorem gRun_law2 {s : Nat → Int32} {n : Nat} (h : WfC s n) (h2 : Two s n) {nm p : Nat → Int32} {a b : Int32} (e0 : nm 0 = a) (e1 : nm 1 = b) : (gRun nm s p n).2 0 = lawF s n a b 0 0 := by
  obtain ⟨-, -, i3, i4⟩ := gRun_wf2 h nm (c4 a b 0 0) p (fun _ => 0) (fun k hk c1 c2 => by
    have := h2 k hk c1 c2
    generalize (-1 - s k).toNatClampNeg = j at this
    have : j = 0 ∨ j = 1 := by omega
    rcases this with rfl | rfl <;> simp [c4, *]) n (Nat.le_refl n)
  exact i3 0 (i4 h.1)
def TxOk2 (S : Sg) (mi : Mem) (t j : Nat) : Prop := TxOk S mi t j ∧ ∀ p, txOf S mi t j = some p → Two (mi (p + 1)) (S.2.1 (p + 1)).2
def law2F (lw : LawT) (x a b : Int32) : Int32 := match lw with
  | none => x
  | some f => f a b 0 0
theorem dX5_fineGives_0 : decode fX5_fineGives.2.1 0 = .ok (.aload_n 0, 1) := by decide +kernel
theorem dX5_fineGives_1 : decode fX5_fineGives.2.1 1 = .ok (.iconst 2, 1) := by decide +kernel
theorem dX5_fineGives_2 : decode fX5_fineGives.2.1 2 = .ok (.invokevirtual 161, 3) := by decide +kernel
theorem dX5_fineGives_5 : decode fX5_fineGives.2.1 5 = .ok (.astore_n 2, 1) := by decide +kernel
theorem dX5_fineGives_6 : decode fX5_fineGives.2.1 6 = .ok (.aload_n 2, 1) := by decide +kernel
theorem dX5_fineGives_7 : decode fX5_fineGives.2.1 7 = .ok (.ifnonnull 8, 3) := by decide +kernel
theorem dX5_fineGives_10 : decode fX5_fineGives.2.1 10 = .ok (.aload_n 1, 1) := by decide +kernel
theorem dX5_fineGives_11 : decode fX5_fineGives.2.1 11 = .ok (.getfield 175, 3) := by decide +kernel
theorem dX5_fineGives_14 : decode fX5_fineGives.2.1 14 = .ok (.ireturn, 1) := by decide +kernel
theorem dX5_fineGives_15 : decode fX5_fineGives.2.1 15 = .ok (.aload_n 0, 1) := by decide +kernel
theorem dX5_fineGives_16 : decode fX5_fineGives.2.1 16 = .ok (.getfield 43, 3) := by decide +kernel
theorem dX5_fineGives_19 : decode fX5_fineGives.2.1 19 = .ok (.iconst 0, 1) := by decide +kernel
theorem dX5_fineGives_20 : decode fX5_fineGives.2.1 20 = .ok (.aload_n 1, 1) := by decide +kernel
theorem dX5_fineGives_21 : decode fX5_fineGives.2.1 21 = .ok (.getfield 178, 3) := by decide +kernel
theorem dX5_fineGives_24 : decode fX5_fineGives.2.1 24 = .ok (.iastore, 1) := by decide +kernel
theorem dX5_fineGives_25 : decode fX5_fineGives.2.1 25 = .ok (.aload_n 0, 1) := by decide +kernel
theorem dX5_fineGives_26 : decode fX5_fineGives.2.1 26 = .ok (.getfield 43, 3) := by decide +kernel
theorem dX5_fineGives_29 : decode fX5_fineGives.2.1 29 = .ok (.iconst 1, 1) := by decide +kernel
theorem dX5_fineGives_30 : decode fX5_fineGives.2.1 30 = .ok (.aload_n 1, 1) := by decide +kernel
theorem dX5_fineGives_31 : decode fX5_fineGives.2.1 31 = .ok (.getfield 175, 3) := by decide +kernel
theorem dX5_fineGives_34 : decode fX5_fineGives.2.1 34 = .ok (.iastore, 1) := by decide +kernel
theorem dX5_fineGives_35 : decode fX5_fineGives.2.1 35 = .ok (.aload_n 2, 1) := by decide +kernel
theorem dX5_fineGives_36 : decode fX5_fineGives.2.1 36 = .ok (.aload_n 0, 1) := by decide +kernel
theorem dX5_fineGives_37 : decode fX5_fineGives.2.1 37 = .ok (.getfield 43, 3) := by decide +kernel
theorem dX5_fineGives_40 : decode fX5_fineGives.2.1 40 = .ok (.aload_n 0, 1) := by decide +kernel
theorem dX5_fineGives_41 : decode fX5_fineGives.2.1 41 = .ok (.getfield 46, 3) := by decide +kernel
theorem dX5_fineGives_44 : decode fX5_fineGives.2.1 44 = .ok (.invokevirtual 165, 3) := by decide +kernel
theorem dX5_fineGives_47 : decode fX5_fineGives.2.1 47 = .ok (.ireturn, 1) := by decide +kernel
set_option maxRecDepth 100000 in
set_option maxHeartbeats 4000000 in
theorem ok_X5_fineGives {X : Xb} {S : Sg} {mi : Mem} {t q : Nat} (hT : TwA S t) (hq : Kd S q 0 0) (hx : TxOk2 S mi t 2) : Ok 2 0 0 fX5_fineGives X [rf X t, rf X q] S mi (fun r S' m => r = some (.int (law2F (lwC S mi t 2) (mi q 4) (mi q 3) (mi q 4))) ∧ S' = S ∧ Scr t mi m) := by
  refine Ok.go [some (rf X t), some (rf X q), none] (by decide) (by simp [Value.category]) (Nat.le_of_ble_eq_true rfl) rfl ?_
  obtain ⟨k_t, ⟨r_t_home, k_t_home⟩, ⟨r_t_price, k_t_price⟩, ⟨r_t_attics, k_t_attics⟩, ⟨r_t_texts, k_t_texts⟩, ⟨r_t_counting, k_t_counting⟩, ⟨r_t_names, k_t_names⟩, ⟨r_t_pile, k_t_pile⟩, ⟨r_t_views, k_t_views⟩, a_t⟩ := id hT
  refine mw_aload_n dX5_fineGives_0 rfl ?_
  refine mw_iconst (v := 2) dX5_fineGives_1 (by decide) ?_
  refine mw_callV (g := fX5_textFor) dX5_fineGives_2 ml_X5_161 mfX5_textFor (ok_X5_textFor hT (j := 2) (by decide)) (by assumption) rfl rfl (Nat.le_of_ble_eq_true rfl) ⟨by decide, by decide⟩ ⟨by decide, by decide⟩ (fun r S2 mi2 hp => ?_)
  obtain ⟨rfl, e1, e2⟩ := hp
  rw [e1, e2]
  cases htx : txOf S mi t 2 with
  | none =>
    refine mw_astore_nN dX5_fineGives_5 (by decide) ?_
    refine mw_aload_nN dX5_fineGives_6 rfl ?_
    refine mw_ifnonnullN dX5_fineGives_7 ?_
    refine mw_aload_n dX5_fineGives_10 rfl ?_
    refine mw_geti dX5_fineGives_11 fl_X5_175 rfl hq ?_
    exact mw_iret dX5_fineGives_14 rfl (by decide) (by decide) ⟨by simp only [lwC, htx, Option.map_none, law2F], rfl, Scr.rf _ _⟩
  | some p =>
  obtain ⟨len, ⟨x1, x2, x3, x4⟩, x5⟩ := hx.1 p htx
  have x6 := hx.2 p htx
  rw [x3.2] at x6
  have np : p ≠ t + 6 := Kd_ne x1 k_t_names (by decide)
  have np5 : p ≠ t + 5 := Kd_ne x1 k_t_counting (by decide)
  have nq : q ≠ t + 6 := Kd_ne hq k_t_names (by decide)
  have np1 : p + 1 ≠ t + 6 := by omega
  refine mw_astN 2 dX5_fineGives_5 rfl (by decide) ?_
  refine mw_aload_n dX5_fineGives_6 rfl ?_
  refine mw_ifnonnull (tgt := 15) dX5_fineGives_7 (by decide) ?_
  skip
  skip
  skip
  skip
  skip
  skip
  refine mw_aload_n dX5_fineGives_15 rfl ?_
  refine mw_getr dX5_fineGives_16 fl_X5_43 rfl (by assumption) (by assumption) ?_
  refine mw_iconst (v := 0) dX5_fineGives_19 (by decide) ?_
  refine mw_aload_n dX5_fineGives_20 rfl ?_
  refine mw_geti dX5_fineGives_21 fl_X5_178 rfl (by assumption) ?_
  refine mw_iastK (k := 0) dX5_fineGives_24 (by assumption) (rfl) (by decide) (by decide) ?_
  refine mw_aload_n dX5_fineGives_25 rfl ?_
  refine mw_getr dX5_fineGives_26 fl_X5_43 rfl (by assumption) (by assumption) ?_
  refine mw_iconst (v := 1) dX5_fineGives_29 (by decide) ?_
  refine mw_aload_n dX5_fineGives_30 rfl ?_
  refine mw_geti dX5_fineGives_31 fl_X5_175 rfl (by assumption) ?_
  refine mw_iastK (k := 1) dX5_fineGives_34 (by assumption) (rfl) (by decide) (by decide) ?_
  refine mw_aload_n dX5_fineGives_35 rfl ?_
  refine mw_aload_n dX5_fineGives_36 rfl ?_
  refine mw_getr dX5_fineGives_37 fl_X5_43 rfl (by assumption) (by assumption) ?_
  refine mw_aload_n dX5_fineGives_40 rfl ?_
  refine mw_getr dX5_fineGives_41 fl_X5_46 rfl (by assumption) (by assumption) ?_
  refine mw_cVI (g := fX4_gives) dX5_fineGives_44 ml_X5_165 mfX4_gives (ok_X4_gives x1 x2 x3 (by omega) k_t_names k_t_pile (by omega) (by omega)) (by assumption) rfl rfl (Nat.le_of_ble_eq_true rfl) ⟨by decide, by decide⟩ ⟨by decide, by decide⟩ ?_
  exact mw_iret dX5_fineGives_47 rfl (by decide) (by decide) (⟨by rw [m_up_ne np1, m_up_ne np1, gRun_law2 (a := mi q 3) (b := mi q 4) x5 x6 (by simp [m_up_row, upd]) (by simp [m_up_row, upd, m_up_ne nq])]; simp only [lwC, htx, Option.map_some, law2F, x3.2], rfl, fun a h1 h2 => by rw [m_row_ne h2, m_up_ne h1, m_up_ne h1]⟩)
theorem dX5_rentOfAll_0 : decode fX5_rentOfAll.2.1 0 = .ok (.iconst 0, 1) := by decide +kernel
theorem dX5_rentOfAll_1 : decode fX5_rentOfAll.2.1 1 = .ok (.istore_n 1, 1) := by decide +kernel
theorem dX5_rentOfAll_2 : decode fX5_rentOfAll.2.1 2 = .ok (.iconst 0, 1) := by decide +kernel
theorem dX5_rentOfAll_3 : decode fX5_rentOfAll.2.1 3 = .ok (.istore_n 2, 1) := by decide +kernel
theorem dX5_rentOfAll_4 : decode fX5_rentOfAll.2.1 4 = .ok (.iload_n 2, 1) := by decide +kernel
theorem dX5_rentOfAll_5 : decode fX5_rentOfAll.2.1 5 = .ok (.aload_n 0, 1) := by decide +kernel
theorem dX5_rentOfAll_6 : decode fX5_rentOfAll.2.1 6 = .ok (.getfield 59, 3) := by decide +kernel
theorem dX5_rentOfAll_9 : decode fX5_rentOfAll.2.1 9 = .ok (.if_icmp .ge 22, 3) := by decide +kernel
theorem dX5_rentOfAll_12 : decode fX5_rentOfAll.2.1 12 = .ok (.iload_n 1, 1) := by decide +kernel
theorem dX5_rentOfAll_13 : decode fX5_rentOfAll.2.1 13 = .ok (.aload_n 0, 1) := by decide +kernel
theorem dX5_rentOfAll_14 : decode fX5_rentOfAll.2.1 14 = .ok (.aload_n 0, 1) := by decide +kernel
theorem dX5_rentOfAll_15 : decode fX5_rentOfAll.2.1 15 = .ok (.getfield 20, 3) := by decide +kernel
theorem dX5_rentOfAll_18 : decode fX5_rentOfAll.2.1 18 = .ok (.iload_n 2, 1) := by decide +kernel
theorem dX5_rentOfAll_19 : decode fX5_rentOfAll.2.1 19 = .ok (.aaload, 1) := by decide +kernel
theorem dX5_rentOfAll_20 : decode fX5_rentOfAll.2.1 20 = .ok (.invokevirtual 101, 3) := by decide +kernel
theorem dX5_rentOfAll_23 : decode fX5_rentOfAll.2.1 23 = .ok (.iadd, 1) := by decide +kernel
theorem dX5_rentOfAll_24 : decode fX5_rentOfAll.2.1 24 = .ok (.istore_n 1, 1) := by decide +kernel
theorem dX5_rentOfAll_25 : decode fX5_rentOfAll.2.1 25 = .ok (.iinc 2 1, 3) := by decide +kernel
theorem dX5_rentOfAll_28 : decode fX5_rentOfAll.2.1 28 = .ok (.goto (-24), 3) := by decide +kernel
theorem dX5_rentOfAll_31 : decode fX5_rentOfAll.2.1 31 = .ok (.iload_n 1, 1) := by decide +kernel
theorem dX5_rentOfAll_32 : decode fX5_rentOfAll.2.1 32 = .ok (.ireturn, 1) := by decide +kernel
set_option maxRecDepth 100000 in
set_option maxHeartbeats 4000000 in
theorem ok_X5_rentOfAll {X : Xb} {S : Sg} {mi : Mem} {t n : Nat} {A : Nat → Int32} {lw : LawT} (hT : TwA S t) (hn8 : n ≤ 8) (hA : eqOn (26 + 5 * n) (tv mi t) A) (hn : A 1 = nI n) (hx : TxOk S mi t 0) (hl : lwC S mi t 0 = lw) : Ok 4 0 0 fX5_rentOfAll X [rf X t] S mi (fun r S' m => r = some (.int (fld (fun s i => s + rRent lw A i) 0 n)) ∧ S' = S ∧ Scr t mi m) := by
  refine Ok.go [some (rf X t), none, none] (by decide) (by simp [Value.category]) (Nat.le_of_ble_eq_true rfl) rfl ?_
  obtain ⟨k_t, ⟨r_t_home, k_t_home⟩, ⟨r_t_price, k_t_price⟩, ⟨r_t_attics, k_t_attics⟩, ⟨r_t_texts, k_t_texts⟩, ⟨r_t_counting, k_t_counting⟩, ⟨r_t_names, k_t_names⟩, ⟨r_t_pile, k_t_pile⟩, ⟨r_t_views, k_t_views⟩, a_t⟩ := id hT
  have lp := mw_dn (P := fun k => ∀ m2, Scr t mi m2 → MW X fX5_rentOfAll (rmOf 4 0 0) 0 0 4 [some (rf X t), some (.int (fld (fun s i => s + rRent lw A i) 0 k)), some (.int (nI k))] [] S m2 (mQ X 0 0 (fun r S' m => r = some (.int (fld (fun s i => s + rRent lw A i) 0 n)) ∧ S' = S ∧ Scr t mi m))) n (by
    intro m2 hs
    have h2 := tv_scr hs hA
    have ec : m2 t 3 = nI n := by rw [show (3 : Nat) = tvF 1 from rfl, tv_0 h2 (by decide) (by omega), hn]
    refine mw_iload_n dX5_rentOfAll_4 rfl ?_
    refine mw_aload_n dX5_rentOfAll_5 rfl ?_
    refine mw_geti dX5_rentOfAll_6 fl_X5_59 rfl (by assumption) ?_
    rw [ec]
    refine mw_icmp_ge (tgt := 31) dX5_rentOfAll_9 (by decide) (fun h9 => ?_) (fun h9 => ?_)
    · skip
      refine mw_iload_n dX5_rentOfAll_31 rfl ?_
      exact mw_iret dX5_rentOfAll_32 rfl (by decide) (by decide) (⟨rfl, rfl, hs⟩)
    · skip
      exact absurd (Int32.le_refl _) h9) (fun k hk ih => by
    intro m2 hs
    have h2 := tv_scr hs hA
    have ec : m2 t 3 = nI n := by rw [show (3 : Nat) = tvF 1 from rfl, tv_0 h2 (by decide) (by omega), hn]
    have hx2 := hx.fr hT (Frt.scr hs)
    have hl2 : lwC S m2 t 0 = lw := (lwC_fr hT hx (Frt.scr hs)).trans hl
    have er : cRent S m2 t (t + 9 + k) = rRent lw A k := by rw [cRent_of h2 (by omega), hl2]
    have hka := (a_t k (by omega)).2
    refine mw_iload_n dX5_rentOfAll_4 rfl ?_
    refine mw_aload_n dX5_rentOfAll_5 rfl ?_
    refine mw_geti dX5_rentOfAll_6 fl_X5_59 rfl (by assumption) ?_
    rw [ec]
    refine mw_icmp_ge (tgt := 31) dX5_rentOfAll_9 (by decide) (fun h9 => ?_) (fun h9 => ?_)
    · skip
      exact absurd h9 (nI_ge hk (by omega))
    · skip
      refine mw_iload_n dX5_rentOfAll_12 rfl ?_
      refine mw_aload_n dX5_rentOfAll_13 rfl ?_
      refine mw_aload_n dX5_rentOfAll_14 rfl ?_
      refine mw_getr dX5_rentOfAll_15 fl_X5_20 rfl (by assumption) (by assumption) ?_
      refine mw_iload_n dX5_rentOfAll_18 rfl ?_
      refine mw_aldK (k := k) dX5_rentOfAll_19 (by assumption) (by decide) (rfl) (by omega) (by decide) ((a_t k (by omega)).1) ?_
      refine mw_callV (g := fX5_rentOf) dX5_rentOfAll_20 ml_X5_101 mfX5_rentOf (ok_rentOf hT hka hx2) (by assumption) rfl rfl (Nat.le_of_ble_eq_true rfl) ⟨by decide, by decide⟩ ⟨by decide, by decide⟩ (fun r S2 mi2 hp => ?_)
      obtain ⟨rfl, e1, hs2⟩ := hp
      rw [e1, er]
      refine mw_iadd dX5_rentOfAll_23 ?_
      refine mw_istN 1 dX5_rentOfAll_24 rfl (by decide) ?_
      refine mw_iincK (k := k) dX5_rentOfAll_25 rfl rfl (by decide) ?_
      refine mw_goto (tgt := 4) dX5_rentOfAll_28 (by decide) ?_
      exact MW.sub (by simp [lsub, fld]) (ih _ (hs.tr hs2)))
  refine mw_iconst (v := 0) dX5_rentOfAll_0 (by decide) ?_
  refine mw_istN 1 dX5_rentOfAll_1 rfl (by decide) ?_
  refine mw_iconst (v := 0) dX5_rentOfAll_2 (by decide) ?_
  refine mw_istN 2 dX5_rentOfAll_3 rfl (by decide) ?_
  exact MW.sub (by simp [lsub, fld, nI_0]) (lp mi (Scr.rf t mi))
theorem dX5_feeGives_0 : decode fX5_feeGives.2.1 0 = .ok (.aload_n 0, 1) := by decide +kernel
theorem dX5_feeGives_1 : decode fX5_feeGives.2.1 1 = .ok (.iconst 1, 1) := by decide +kernel
theorem dX5_feeGives_2 : decode fX5_feeGives.2.1 2 = .ok (.invokevirtual 161, 3) := by decide +kernel
theorem dX5_feeGives_5 : decode fX5_feeGives.2.1 5 = .ok (.astore_n 1, 1) := by decide +kernel
theorem dX5_feeGives_6 : decode fX5_feeGives.2.1 6 = .ok (.aload_n 1, 1) := by decide +kernel
theorem dX5_feeGives_7 : decode fX5_feeGives.2.1 7 = .ok (.ifnonnull 8, 3) := by decide +kernel
theorem dX5_feeGives_10 : decode fX5_feeGives.2.1 10 = .ok (.aload_n 0, 1) := by decide +kernel
theorem dX5_feeGives_11 : decode fX5_feeGives.2.1 11 = .ok (.getfield 72, 3) := by decide +kernel
theorem dX5_feeGives_14 : decode fX5_feeGives.2.1 14 = .ok (.ireturn, 1) := by decide +kernel
theorem dX5_feeGives_15 : decode fX5_feeGives.2.1 15 = .ok (.aload_n 0, 1) := by decide +kernel
theorem dX5_feeGives_16 : decode fX5_feeGives.2.1 16 = .ok (.getfield 43, 3) := by decide +kernel
theorem dX5_feeGives_19 : decode fX5_feeGives.2.1 19 = .ok (.iconst 0, 1) := by decide +kernel
theorem dX5_feeGives_20 : decode fX5_feeGives.2.1 20 = .ok (.aload_n 0, 1) := by decide +kernel
theorem dX5_feeGives_21 : decode fX5_feeGives.2.1 21 = .ok (.getfield 72, 3) := by decide +kernel
theorem dX5_feeGives_24 : decode fX5_feeGives.2.1 24 = .ok (.iastore, 1) := by decide +kernel
theorem dX5_feeGives_25 : decode fX5_feeGives.2.1 25 = .ok (.aload_n 0, 1) := by decide +kernel
theorem dX5_feeGives_26 : decode fX5_feeGives.2.1 26 = .ok (.getfield 43, 3) := by decide +kernel
theorem dX5_feeGives_29 : decode fX5_feeGives.2.1 29 = .ok (.iconst 1, 1) := by decide +kernel
theorem dX5_feeGives_30 : decode fX5_feeGives.2.1 30 = .ok (.aload_n 0, 1) := by decide +kernel
theorem dX5_feeGives_31 : decode fX5_feeGives.2.1 31 = .ok (.invokevirtual 172, 3) := by decide +kernel
theorem dX5_feeGives_34 : decode fX5_feeGives.2.1 34 = .ok (.iastore, 1) := by decide +kernel
theorem dX5_feeGives_35 : decode fX5_feeGives.2.1 35 = .ok (.aload_n 1, 1) := by decide +kernel
theorem dX5_feeGives_36 : decode fX5_feeGives.2.1 36 = .ok (.aload_n 0, 1) := by decide +kernel
theorem dX5_feeGives_37 : decode fX5_feeGives.2.1 37 = .ok (.getfield 43, 3) := by decide +kernel
theorem dX5_feeGives_40 : decode fX5_feeGives.2.1 40 = .ok (.aload_n 0, 1) := by decide +kernel
theorem dX5_feeGives_41 : decode fX5_feeGives.2.1 41 = .ok (.getfield 46, 3) := by decide +kernel
theorem dX5_feeGives_44 : decode fX5_feeGives.2.1 44 = .ok (.invokevirtual 165, 3) := by decide +kernel
theorem dX5_feeGives_47 : decode fX5_feeGives.2.1 47 = .ok (.ireturn, 1) := by decide +kernel
set_option maxRecDepth 100000 in
set_option maxHeartbeats 4000000 in
theorem ok_X5_feeGives {X : Xb} {S : Sg} {mi : Mem} {t n : Nat} (hT : TwA S t) (hn : mi t 3 = nI n) (hn8 : n ≤ 8) (hx : TxOk2 S mi t 1) : Ok 2 0 0 fX5_feeGives X [rf X t] S mi (fun r S' m => r = some (.int (law2F (lwC S mi t 1) (mi t 8) (mi t 8) (fld (fun s i => s + mi (t + 9 + i) 4) 0 n))) ∧ S' = S ∧ Scr t mi m) := by
  refine Ok.go [some (rf X t), none] (by decide) (by simp [Value.category]) (Nat.le_of_ble_eq_true rfl) rfl ?_
  obtain ⟨k_t, ⟨r_t_home, k_t_home⟩, ⟨r_t_price, k_t_price⟩, ⟨r_t_attics, k_t_attics⟩, ⟨r_t_texts, k_t_texts⟩, ⟨r_t_counting, k_t_counting⟩, ⟨r_t_names, k_t_names⟩, ⟨r_t_pile, k_t_pile⟩, ⟨r_t_views, k_t_views⟩, a_t⟩ := id hT
  refine mw_aload_n dX5_feeGives_0 rfl ?_
  refine mw_iconst (v := 1) dX5_feeGives_1 (by decide) ?_
  refine mw_callV (g := fX5_textFor) dX5_feeGives_2 ml_X5_161 mfX5_textFor (ok_X5_textFor hT (j := 1) (by decide)) (by assumption) rfl rfl (Nat.le_of_ble_eq_true rfl) ⟨by decide, by decide⟩ ⟨by decide, by decide⟩ (fun r S2 mi2 hp => ?_)
  obtain ⟨rfl, e1, e2⟩ := hp
  rw [e1, e2]
  cases htx : txOf S mi t 1 with
  | none =>
    refine mw_astore_nN dX5_feeGives_5 (by decide) ?_
    refine mw_aload_nN dX5_feeGives_6 rfl ?_
    refine mw_ifnonnullN dX5_feeGives_7 ?_
    refine mw_aload_n dX5_feeGives_10 rfl ?_
    refine mw_geti dX5_feeGives_11 fl_X5_72 rfl k_t ?_
    exact mw_iret dX5_feeGives_14 rfl (by decide) (by decide) ⟨by simp only [lwC, htx, Option.map_none, law2F], rfl, Scr.rf _ _⟩
  | some p =>
  obtain ⟨len, ⟨x1, x2, x3, x4⟩, x5⟩ := hx.1 p htx
  have x6 := hx.2 p htx
  rw [x3.2] at x6
  have np : p ≠ t + 6 := Kd_ne x1 k_t_names (by decide)
  have np5 : p ≠ t + 5 := Kd_ne x1 k_t_counting (by decide)
  have np1 : p + 1 ≠ t + 6 := by omega
  have nt : t ≠ t + 6 := by omega
  refine mw_astN 1 dX5_feeGives_5 rfl (by decide) ?_
  refine mw_aload_n dX5_feeGives_6 rfl ?_
  refine mw_ifnonnull (tgt := 15) dX5_feeGives_7 (by decide) ?_
  skip
  skip
  skip
  skip
  skip
  skip
  refine mw_aload_n dX5_feeGives_15 rfl ?_
  refine mw_getr dX5_feeGives_16 fl_X5_43 rfl (by assumption) (by assumption) ?_
  refine mw_iconst (v := 0) dX5_feeGives_19 (by decide) ?_
  refine mw_aload_n dX5_feeGives_20 rfl ?_
  refine mw_geti dX5_feeGives_21 fl_X5_72 rfl (by assumption) ?_
  refine mw_iastK (k := 0) dX5_feeGives_24 (by assumption) (rfl) (by decide) (by decide) ?_
  refine mw_aload_n dX5_feeGives_25 rfl ?_
  refine mw_getr dX5_feeGives_26 fl_X5_43 rfl (by assumption) (by assumption) ?_
  refine mw_iconst (v := 1) dX5_feeGives_29 (by decide) ?_
  refine mw_aload_n dX5_feeGives_30 rfl ?_
  refine mw_cVI (g := fX5_owedByAll) dX5_feeGives_31 ml_X5_172 mfX5_owedByAll (ok_X5_owedByAll hT (by rw [m_up_ne nt]; exact hn) hn8) (by assumption) rfl rfl (Nat.le_of_ble_eq_true rfl) ⟨by decide, by decide⟩ ⟨by decide, by decide⟩ ?_
  rw [fld_congr n (fun s k hk => by rw [m_up_ne (show t + 9 + k ≠ t + 6 by omega)])]
  refine mw_iastK (k := 1) dX5_feeGives_34 (by assumption) (rfl) (by decide) (by decide) ?_
  refine mw_aload_n dX5_feeGives_35 rfl ?_
  refine mw_aload_n dX5_feeGives_36 rfl ?_
  refine mw_getr dX5_feeGives_37 fl_X5_43 rfl (by assumption) (by assumption) ?_
  refine mw_aload_n dX5_feeGives_40 rfl ?_
  refine mw_getr dX5_feeGives_41 fl_X5_46 rfl (by assumption) (by assumption) ?_
  refine mw_cVI (g := fX4_gives) dX5_feeGives_44 ml_X5_165 mfX4_gives (ok_X4_gives x1 x2 x3 (by omega) k_t_names k_t_pile (by omega) (by omega)) (by assumption) rfl rfl (Nat.le_of_ble_eq_true rfl) ⟨by decide, by decide⟩ ⟨by decide, by decide⟩ ?_
  exact mw_iret dX5_feeGives_47 rfl (by decide) (by decide) (⟨by rw [m_up_ne np1, m_up_ne np1, gRun_law2 (a := mi t 8) (b := fld (fun s i => s + mi (t + 9 + i) 4) 0 n) x5 x6 (by simp [m_up_row, upd]) (by simp [m_up_row, upd])]; simp only [lwC, htx, Option.map_some, law2F, x3.2], rfl, fun a h1 h2 => by rw [m_row_ne h2, m_up_ne h1, m_up_ne h1]⟩)
