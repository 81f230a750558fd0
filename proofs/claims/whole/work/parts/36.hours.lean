/-! the object's hours -/
def cHours (lw : LawT) (n : Nat) (A : Nat → Int32) : Nat → Nat → Int32
  | 0 => A
  | k + 1 => hourF lw n (cHours lw n A k)
theorem hWage_lo {n j : Nat} {B : Nat → Int32} (hj : j < 26) : hWage n B j = B j := by
  unfold hWage; split
  · exact wageTo_lo hj n
  · rfl
theorem hourF_lo {lw : LawT} {n j : Nat} {A : Nat → Int32} (hj : j < 26) (h0 : j ≠ 0) (h2 : j ≠ 2) (h3 : j ≠ 3) (h4 : j ≠ 4) (h9 : j ≠ 9) : hourF lw n A j = A j := by
  simp only [hourF, hEnd, upd, h2, if_false]
  rw [hWage_lo hj, hSm_lo h0 h9, hPay_lo hj h0 h3 h4]
theorem hourF_2 {lw : LawT} {n : Nat} {A : Nat → Int32} : hourF lw n A 2 = A 2 + 1 := by
  simp only [hourF, hEnd, upd_at]
  rw [hWage_lo (by decide), hSm_lo (by decide) (by decide), hPay_lo (by decide) (by decide) (by decide) (by decide)]
theorem cHours_lo {lw : LawT} {n j : Nat} {A : Nat → Int32} (hj : j < 26) (h0 : j ≠ 0) (h2 : j ≠ 2) (h3 : j ≠ 3) (h4 : j ≠ 4) (h9 : j ≠ 9) : ∀ k, cHours lw n A k j = A j
  | 0 => rfl
  | k + 1 => by simp only [cHours]; rw [hourF_lo hj h0 h2 h3 h4 h9]; exact cHours_lo hj h0 h2 h3 h4 h9 k
theorem cHours_2 {lw : LawT} {n h : Nat} {A : Nat → Int32} (hh : A 2 = nI h) : ∀ k, cHours lw n A k 2 = nI (h + k)
  | 0 => hh
  | k + 1 => by simp only [cHours]; rw [hourF_2, cHours_2 hh k, nI_1]; rfl
theorem in100 {v : Int32} (h : 1 ≤ v ∧ v ≤ 100) : ∃ k, 1 ≤ k ∧ k ≤ 100 ∧ v = nI k := by
  obtain ⟨j, hj, rfl⟩ := nI_of (x := v) (Int32.not_lt.mpr (Int32.le_trans (show (0 : Int32) ≤ 1 by decide) h.1))
  exact ⟨j, by have := (nI_leI (a := 1) (by decide) hj).mp h.1; omega, by have := (nI_leI (b := 100) hj (by decide)).mp h.2; omega, rfl⟩
def sHours (lw : LawT) (A : Nat → Int32) (n h : Nat) (v : Int32) : Sp := if 1 ≤ v ∧ v ≤ 100 then (cHours lw n A (min v.toNatClampNeg (9999 - h)) 3 - A 3, cHours lw n A (min v.toNatClampNeg (9999 - h)), n) else (BADi, A, n)
theorem dX6_hours_0 : decode fX6_hours.2.1 0 = .ok (.iload_n 1, 1) := by decide +kernel
theorem dX6_hours_1 : decode fX6_hours.2.1 1 = .ok (.iconst 1, 1) := by decide +kernel
theorem dX6_hours_2 : decode fX6_hours.2.1 2 = .ok (.bipush 100, 2) := by decide +kernel
theorem dX6_hours_4 : decode fX6_hours.2.1 4 = .ok (.invokestatic 50, 3) := by decide +kernel
theorem dX6_hours_7 : decode fX6_hours.2.1 7 = .ok (.ifCond .ne 6, 3) := by decide +kernel
theorem dX6_hours_10 : decode fX6_hours.2.1 10 = .ok (.ldc 58, 2) := by decide +kernel
theorem dX6_hours_12 : decode fX6_hours.2.1 12 = .ok (.ireturn, 1) := by decide +kernel
theorem dX6_hours_13 : decode fX6_hours.2.1 13 = .ok (.aload_n 0, 1) := by decide +kernel
theorem dX6_hours_14 : decode fX6_hours.2.1 14 = .ok (.getfield 10, 3) := by decide +kernel
theorem dX6_hours_17 : decode fX6_hours.2.1 17 = .ok (.getfield 145, 3) := by decide +kernel
theorem dX6_hours_20 : decode fX6_hours.2.1 20 = .ok (.istore_n 2, 1) := by decide +kernel
theorem dX6_hours_21 : decode fX6_hours.2.1 21 = .ok (.iconst 0, 1) := by decide +kernel
theorem dX6_hours_22 : decode fX6_hours.2.1 22 = .ok (.istore_n 3, 1) := by decide +kernel
theorem dX6_hours_23 : decode fX6_hours.2.1 23 = .ok (.iload_n 3, 1) := by decide +kernel
theorem dX6_hours_24 : decode fX6_hours.2.1 24 = .ok (.iload_n 1, 1) := by decide +kernel
theorem dX6_hours_25 : decode fX6_hours.2.1 25 = .ok (.if_icmp .ge 29, 3) := by decide +kernel
theorem dX6_hours_28 : decode fX6_hours.2.1 28 = .ok (.aload_n 0, 1) := by decide +kernel
theorem dX6_hours_29 : decode fX6_hours.2.1 29 = .ok (.getfield 10, 3) := by decide +kernel
theorem dX6_hours_32 : decode fX6_hours.2.1 32 = .ok (.getfield 148, 3) := by decide +kernel
theorem dX6_hours_35 : decode fX6_hours.2.1 35 = .ok (.sipush 9999, 3) := by decide +kernel
theorem dX6_hours_38 : decode fX6_hours.2.1 38 = .ok (.if_icmp .ge 16, 3) := by decide +kernel
theorem dX6_hours_41 : decode fX6_hours.2.1 41 = .ok (.aload_n 0, 1) := by decide +kernel
theorem dX6_hours_42 : decode fX6_hours.2.1 42 = .ok (.getfield 10, 3) := by decide +kernel
theorem dX6_hours_45 : decode fX6_hours.2.1 45 = .ok (.invokevirtual 151, 3) := by decide +kernel
theorem dX6_hours_48 : decode fX6_hours.2.1 48 = .ok (.iinc 3 1, 3) := by decide +kernel
theorem dX6_hours_51 : decode fX6_hours.2.1 51 = .ok (.goto (-28), 3) := by decide +kernel
theorem dX6_hours_54 : decode fX6_hours.2.1 54 = .ok (.aload_n 0, 1) := by decide +kernel
theorem dX6_hours_55 : decode fX6_hours.2.1 55 = .ok (.getfield 10, 3) := by decide +kernel
theorem dX6_hours_58 : decode fX6_hours.2.1 58 = .ok (.getfield 145, 3) := by decide +kernel
theorem dX6_hours_61 : decode fX6_hours.2.1 61 = .ok (.iload_n 2, 1) := by decide +kernel
theorem dX6_hours_62 : decode fX6_hours.2.1 62 = .ok (.isub, 1) := by decide +kernel
theorem dX6_hours_63 : decode fX6_hours.2.1 63 = .ok (.ireturn, 1) := by decide +kernel
set_option maxRecDepth 100000 in
set_option maxHeartbeats 4000000 in
theorem ok_X6_hours {X : Xb} {S : Sg} {mi : Mem} {x n h : Nat} {A : Nat → Int32} {lw : LawT} {v : Int32} (hX : AsA S x) (hn8 : n ≤ 8) (hA : eqOn (26 + 5 * n) (tv mi (x + 1)) A) (hn : A 1 = nI n) (hh : A 2 = nI h) (h99 : h ≤ 9999) (hx : TxOk S mi (x + 1) 0) (hl : lwC S mi (x + 1) 0 = lw) : Ok 5 0 0 fX6_hours X [rf X x, .int v] S mi (PS S mi x (sHours lw A n h v)) := by
  refine Ok.go [some (rf X x), some (.int v), none, none] (by decide) (by simp [Value.category]) (Nat.le_of_ble_eq_true rfl) rfl ?_
  obtain ⟨k_x, ⟨r_x_now, t_now⟩, ⟨r_x_thought, t_thought⟩, ⟨r_x_image, t_image⟩, ⟨r_x_tape, t_tape⟩, ⟨r_x_sheets, k_x_sheets⟩, ⟨r_x_slots, k_x_slots⟩, ⟨r_x_waiting, k_x_waiting⟩, ⟨r_x_diff, k_x_diff⟩, a_sheets, a_slots⟩ := id hX
  obtain ⟨k_t, ⟨r_t_home, k_t_home⟩, ⟨r_t_price, k_t_price⟩, ⟨r_t_attics, k_t_attics⟩, ⟨r_t_texts, k_t_texts⟩, ⟨r_t_counting, k_t_counting⟩, ⟨r_t_names, k_t_names⟩, ⟨r_t_pile, k_t_pile⟩, ⟨r_t_views, k_t_views⟩, a_t⟩ := id t_now
  have z := Fr1.rf (x + 1) mi
  have e3 : mi (x + 1) 8 = A 3 := tv_0 (j := 3) hA (by decide) (by omega)
  have loop : ∀ q, 1 ≤ q → q ≤ 100 → v = nI q → MW X fX6_hours (rmOf 5 0 0) 0 0 23 [some (rf X x), some (.int (nI q)), some (.int (A 3)), some (.int (nI 0))] [] S mi (mQ X 0 0 (PS S mi x (sHours lw A n h v))) := by
    intro q q1 q100 hv
    have ecl : v.toNatClampNeg = q := by rw [hv, nI_clamp (by omega)]
    have hvr : 1 ≤ v ∧ v ≤ 100 := by rw [hv]; exact ⟨nI_le (a := 1) q1 (by omega), nI_le (b := 100) q100 (by decide)⟩
    generalize hc : min q (9999 - h) = c
    have s54 : ∀ m, eqOn (26 + 5 * n) (tv m (x + 1)) (cHours lw n A c) → Frt (x + 1) mi m → MW X fX6_hours (rmOf 5 0 0) 0 0 54 [some (rf X x), none, some (.int (A 3)), none] [] S m (mQ X 0 0 (PS S mi x (sHours lw A n h v))) := by
      intro m h2 hF
      have e8 : m (x + 1) 8 = cHours lw n A c 3 := tv_0 (j := 3) h2 (by decide) (by omega)
      refine mw_aload_n dX6_hours_54 rfl ?_
      refine mw_getr dX6_hours_55 fl_X6_10 rfl (by assumption) (by assumption) ?_
      refine mw_geti dX6_hours_58 fl_X6_145 rfl (by assumption) ?_
      rw [e8]
      refine mw_iload_n dX6_hours_61 rfl ?_
      refine mw_isub dX6_hours_62 ?_
      exact mw_iret dX6_hours_63 rfl (by decide) (by decide) (by rw [sHours, if_pos hvr, ecl, hc]; exact ⟨rfl, rfl, h2, Fr1.of hF⟩)
    have lp := mw_dn (P := fun k => ∀ m, eqOn (26 + 5 * n) (tv m (x + 1)) (cHours lw n A k) → Frt (x + 1) mi m → MW X fX6_hours (rmOf 5 0 0) 0 0 23 [some (rf X x), some (.int (nI q)), some (.int (A 3)), some (.int (nI k))] [] S m (mQ X 0 0 (PS S mi x (sHours lw A n h v)))) c (by
      intro m h2 hF
      have e2 : m (x + 1) 10 = nI (h + c) := by rw [show (10 : Nat) = tvF 2 from rfl, tv_0 h2 (by decide) (by omega), cHours_2 hh]
      refine mw_iload_n dX6_hours_23 rfl ?_
      refine mw_iload_n dX6_hours_24 rfl ?_
      refine mw_icmp_ge (tgt := 54) dX6_hours_25 (by decide) (fun h25 => ?_) (fun h25 => ?_)
      · skip
        exact MW.sub (by simp [lsub]) (s54 m h2 hF)
      · skip
        refine mw_aload_n dX6_hours_28 rfl ?_
        refine mw_getr dX6_hours_29 fl_X6_10 rfl (by assumption) (by assumption) ?_
        refine mw_geti dX6_hours_32 fl_X6_148 rfl (by assumption) ?_
        rw [e2]
        refine mw_sipush (v := 9999) dX6_hours_35 (by decide) ?_
        refine mw_icmp_ge (tgt := 54) dX6_hours_38 (by decide) (fun h38 => ?_) (fun h38 => ?_)
        · skip
          exact MW.sub (by simp [lsub]) (s54 m h2 hF)
        · skip
          exfalso
          have c1 : c < q := (nI_ltI (by omega) (by omega)).mp (Int32.not_le.mp h25)
          have c2 : h + c < 9999 := (nI_ltI (b := 9999) (by omega) (by decide)).mp (Int32.not_le.mp h38)
          omega) (fun k hk ih => by
      intro m h2 hF
      have e2 : m (x + 1) 10 = nI (h + k) := by rw [show (10 : Nat) = tvF 2 from rfl, tv_0 h2 (by decide) (by omega), cHours_2 hh]
      have hx2 := hx.fr t_now hF
      have hl2 : lwC S m (x + 1) 0 = lw := (lwC_fr t_now hx hF).trans hl
      have hn2 : cHours lw n A k 1 = nI n := by rw [cHours_lo (by decide) (by decide) (by decide) (by decide) (by decide) (by decide), hn]
      have g1 : ¬ nI q ≤ nI k := nI_ge (by omega) (by omega)
      have g2 : ¬ (9999 : Int32) ≤ nI (h + k) := nI_ge (b := 9999) (by omega) (by decide)
      refine mw_iload_n dX6_hours_23 rfl ?_
      refine mw_iload_n dX6_hours_24 rfl ?_
      refine mw_icmp_ge (tgt := 54) dX6_hours_25 (by decide) (fun h25 => ?_) (fun h25 => ?_)
      · skip
        exfalso
        first
          | exact g1 h25
          | exact g2 h38
          | fail "stop"
      · skip
        refine mw_aload_n dX6_hours_28 rfl ?_
        refine mw_getr dX6_hours_29 fl_X6_10 rfl (by assumption) (by assumption) ?_
        refine mw_geti dX6_hours_32 fl_X6_148 rfl (by assumption) ?_
        rw [e2]
        refine mw_sipush (v := 9999) dX6_hours_35 (by decide) ?_
        refine mw_icmp_ge (tgt := 54) dX6_hours_38 (by decide) (fun h38 => ?_) (fun h38 => ?_)
        · skip
          exfalso
          first
            | exact g1 h25
            | exact g2 h38
            | fail "stop"
        · skip
          refine mw_aload_n dX6_hours_41 rfl ?_
          refine mw_getr dX6_hours_42 fl_X6_10 rfl (by assumption) (by assumption) ?_
          refine mw_callV (g := fX5_passHour) dX6_hours_45 ml_X6_151 mfX5_passHour (ok_X5_passHour t_now hn8 h2 hn2 hx2 hl2) (by assumption) rfl rfl (Nat.le_of_ble_eq_true rfl) ⟨by decide, by decide⟩ ⟨by decide, by decide⟩ (fun r S2 mi2 hp => ?_)
          obtain ⟨rfl, e1, e4, e5⟩ := hp
          rw [e1]
          refine mw_iincK (k := k) dX6_hours_48 rfl rfl (by decide) ?_
          refine mw_goto (tgt := 23) dX6_hours_51 (by decide) ?_
          exact MW.sub (by simp [lsub]) (ih _ e4 (hF.tr e5)))
    exact lp mi hA (Frt.rf (x + 1) mi)
  refine mw_iload_n dX6_hours_0 rfl ?_
  refine mw_iconst (v := 1) dX6_hours_1 (by decide) ?_
  refine mw_bipush (v := 100) dX6_hours_2 (by decide) ?_
  refine mw_cSI (g := fX6_within) dX6_hours_4 ml_X6_50 mfX6_within (ok_X6_within) rfl rfl (Nat.le_of_ble_eq_true rfl) ⟨by decide, by decide⟩ ⟨by decide, by decide⟩ ?_
  refine mw_if_neB (tgt := 13) dX6_hours_7 (by decide) (fun h7 => ?_) (fun h7 => ?_)
  · skip
    obtain ⟨q, q1, q100, hv⟩ := in100 h7
    refine mw_aload_n dX6_hours_13 rfl ?_
    refine mw_getr dX6_hours_14 fl_X6_10 rfl (by assumption) (by assumption) ?_
    refine mw_geti dX6_hours_17 fl_X6_145 rfl (by assumption) ?_
    rw [e3]
    refine mw_istN 2 dX6_hours_20 rfl (by decide) ?_
    refine mw_iconst (v := 0) dX6_hours_21 (by decide) ?_
    refine mw_istN 3 dX6_hours_22 rfl (by decide) ?_
    have lq := loop q q1 q100 hv
    rw [← hv] at lq
    exact MW.sub (by simp [lsub, nI_0]) lq
  · skip
    refine mw_ldc dX6_hours_10 cn_X6_58 ?_
    exact mw_iret dX6_hours_12 rfl (by decide) (by decide) (by rw [sHours, if_neg h7]; exact ⟨rfl, rfl, hA, z⟩)
