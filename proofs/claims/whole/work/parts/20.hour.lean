/-! Town: an hour -/
theorem m_up_at (mi : Mem) (i j : Nat) (v : Int32) : m_up mi i j v i j = v := by simp [m_up]
theorem m_up_of {mi : Mem} {i j k : Nat} {v : Int32} (h : k ≠ j) : m_up mi i j v i k = mi i k := by simp [m_up, h]
theorem m_up_up (mi : Mem) (i j : Nat) (v w : Int32) : m_up (m_up mi i j v) i j w = m_up mi i j w := by
  funext a b; simp only [m_up]; grind
theorem dX5_passHour_0 : decode fX5_passHour.2.1 0 = .ok (.aload_n 0, 1) := by decide +kernel
theorem dX5_passHour_1 : decode fX5_passHour.2.1 1 = .ok (.invokevirtual 89, 3) := by decide +kernel
theorem dX5_passHour_4 : decode fX5_passHour.2.1 4 = .ok (.istore_n 1, 1) := by decide +kernel
theorem dX5_passHour_5 : decode fX5_passHour.2.1 5 = .ok (.aload_n 0, 1) := by decide +kernel
theorem dX5_passHour_6 : decode fX5_passHour.2.1 6 = .ok (.invokevirtual 89, 3) := by decide +kernel
theorem dX5_passHour_9 : decode fX5_passHour.2.1 9 = .ok (.istore_n 2, 1) := by decide +kernel
theorem dX5_passHour_10 : decode fX5_passHour.2.1 10 = .ok (.iload_n 1, 1) := by decide +kernel
theorem dX5_passHour_11 : decode fX5_passHour.2.1 11 = .ok (.bipush 100, 2) := by decide +kernel
theorem dX5_passHour_13 : decode fX5_passHour.2.1 13 = .ok (.irem, 1) := by decide +kernel
theorem dX5_passHour_14 : decode fX5_passHour.2.1 14 = .ok (.aload_n 0, 1) := by decide +kernel
theorem dX5_passHour_15 : decode fX5_passHour.2.1 15 = .ok (.getfield 24, 3) := by decide +kernel
theorem dX5_passHour_18 : decode fX5_passHour.2.1 18 = .ok (.if_icmp .ge 16, 3) := by decide +kernel
theorem dX5_passHour_21 : decode fX5_passHour.2.1 21 = .ok (.aload_n 0, 1) := by decide +kernel
theorem dX5_passHour_22 : decode fX5_passHour.2.1 22 = .ok (.dup, 1) := by decide +kernel
theorem dX5_passHour_23 : decode fX5_passHour.2.1 23 = .ok (.getfield 75, 3) := by decide +kernel
theorem dX5_passHour_26 : decode fX5_passHour.2.1 26 = .ok (.iconst 1, 1) := by decide +kernel
theorem dX5_passHour_27 : decode fX5_passHour.2.1 27 = .ok (.iadd, 1) := by decide +kernel
theorem dX5_passHour_28 : decode fX5_passHour.2.1 28 = .ok (.putfield 75, 3) := by decide +kernel
theorem dX5_passHour_31 : decode fX5_passHour.2.1 31 = .ok (.goto 47, 3) := by decide +kernel
theorem dX5_passHour_34 : decode fX5_passHour.2.1 34 = .ok (.iconst 0, 1) := by decide +kernel
theorem dX5_passHour_35 : decode fX5_passHour.2.1 35 = .ok (.istore_n 3, 1) := by decide +kernel
theorem dX5_passHour_36 : decode fX5_passHour.2.1 36 = .ok (.iload_n 3, 1) := by decide +kernel
theorem dX5_passHour_37 : decode fX5_passHour.2.1 37 = .ok (.aload_n 0, 1) := by decide +kernel
theorem dX5_passHour_38 : decode fX5_passHour.2.1 38 = .ok (.getfield 59, 3) := by decide +kernel
theorem dX5_passHour_41 : decode fX5_passHour.2.1 41 = .ok (.if_icmp .ge 37, 3) := by decide +kernel
theorem dX5_passHour_44 : decode fX5_passHour.2.1 44 = .ok (.aload_n 0, 1) := by decide +kernel
theorem dX5_passHour_45 : decode fX5_passHour.2.1 45 = .ok (.dup, 1) := by decide +kernel
theorem dX5_passHour_46 : decode fX5_passHour.2.1 46 = .ok (.getfield 72, 3) := by decide +kernel
theorem dX5_passHour_49 : decode fX5_passHour.2.1 49 = .ok (.aload_n 0, 1) := by decide +kernel
theorem dX5_passHour_50 : decode fX5_passHour.2.1 50 = .ok (.getfield 20, 3) := by decide +kernel
theorem dX5_passHour_53 : decode fX5_passHour.2.1 53 = .ok (.iload_n 3, 1) := by decide +kernel
theorem dX5_passHour_54 : decode fX5_passHour.2.1 54 = .ok (.aaload, 1) := by decide +kernel
theorem dX5_passHour_55 : decode fX5_passHour.2.1 55 = .ok (.aload_n 0, 1) := by decide +kernel
theorem dX5_passHour_56 : decode fX5_passHour.2.1 56 = .ok (.aload_n 0, 1) := by decide +kernel
theorem dX5_passHour_57 : decode fX5_passHour.2.1 57 = .ok (.getfield 20, 3) := by decide +kernel
theorem dX5_passHour_60 : decode fX5_passHour.2.1 60 = .ok (.iload_n 3, 1) := by decide +kernel
theorem dX5_passHour_61 : decode fX5_passHour.2.1 61 = .ok (.aaload, 1) := by decide +kernel
theorem dX5_passHour_62 : decode fX5_passHour.2.1 62 = .ok (.invokevirtual 101, 3) := by decide +kernel
theorem dX5_passHour_65 : decode fX5_passHour.2.1 65 = .ok (.invokevirtual 105, 3) := by decide +kernel
theorem dX5_passHour_68 : decode fX5_passHour.2.1 68 = .ok (.iadd, 1) := by decide +kernel
theorem dX5_passHour_69 : decode fX5_passHour.2.1 69 = .ok (.putfield 72, 3) := by decide +kernel
theorem dX5_passHour_72 : decode fX5_passHour.2.1 72 = .ok (.iinc 3 1, 3) := by decide +kernel
theorem dX5_passHour_75 : decode fX5_passHour.2.1 75 = .ok (.goto (-39), 3) := by decide +kernel
theorem dX5_passHour_78 : decode fX5_passHour.2.1 78 = .ok (.iload_n 2, 1) := by decide +kernel
theorem dX5_passHour_79 : decode fX5_passHour.2.1 79 = .ok (.bipush 100, 2) := by decide +kernel
theorem dX5_passHour_81 : decode fX5_passHour.2.1 81 = .ok (.irem, 1) := by decide +kernel
theorem dX5_passHour_82 : decode fX5_passHour.2.1 82 = .ok (.aload_n 0, 1) := by decide +kernel
theorem dX5_passHour_83 : decode fX5_passHour.2.1 83 = .ok (.getfield 69, 3) := by decide +kernel
theorem dX5_passHour_86 : decode fX5_passHour.2.1 86 = .ok (.if_icmp .ge 21, 3) := by decide +kernel
theorem dX5_passHour_89 : decode fX5_passHour.2.1 89 = .ok (.aload_n 0, 1) := by decide +kernel
theorem dX5_passHour_90 : decode fX5_passHour.2.1 90 = .ok (.dup, 1) := by decide +kernel
theorem dX5_passHour_91 : decode fX5_passHour.2.1 91 = .ok (.getfield 66, 3) := by decide +kernel
theorem dX5_passHour_94 : decode fX5_passHour.2.1 94 = .ok (.iconst 1, 1) := by decide +kernel
theorem dX5_passHour_95 : decode fX5_passHour.2.1 95 = .ok (.aload_n 0, 1) := by decide +kernel
theorem dX5_passHour_96 : decode fX5_passHour.2.1 96 = .ok (.invokevirtual 89, 3) := by decide +kernel
theorem dX5_passHour_99 : decode fX5_passHour.2.1 99 = .ok (.bipush 24, 2) := by decide +kernel
theorem dX5_passHour_101 : decode fX5_passHour.2.1 101 = .ok (.irem, 1) := by decide +kernel
theorem dX5_passHour_102 : decode fX5_passHour.2.1 102 = .ok (.ishl, 1) := by decide +kernel
theorem dX5_passHour_103 : decode fX5_passHour.2.1 103 = .ok (.ixor, 1) := by decide +kernel
theorem dX5_passHour_104 : decode fX5_passHour.2.1 104 = .ok (.putfield 66, 3) := by decide +kernel
theorem dX5_passHour_107 : decode fX5_passHour.2.1 107 = .ok (.aload_n 0, 1) := by decide +kernel
theorem dX5_passHour_108 : decode fX5_passHour.2.1 108 = .ok (.getfield 78, 3) := by decide +kernel
theorem dX5_passHour_111 : decode fX5_passHour.2.1 111 = .ok (.bipush 24, 2) := by decide +kernel
theorem dX5_passHour_113 : decode fX5_passHour.2.1 113 = .ok (.irem, 1) := by decide +kernel
theorem dX5_passHour_114 : decode fX5_passHour.2.1 114 = .ok (.bipush 6, 2) := by decide +kernel
theorem dX5_passHour_116 : decode fX5_passHour.2.1 116 = .ok (.if_icmp .ne 32, 3) := by decide +kernel
theorem dX5_passHour_119 : decode fX5_passHour.2.1 119 = .ok (.iconst 0, 1) := by decide +kernel
theorem dX5_passHour_120 : decode fX5_passHour.2.1 120 = .ok (.istore_n 3, 1) := by decide +kernel
theorem dX5_passHour_121 : decode fX5_passHour.2.1 121 = .ok (.iload_n 3, 1) := by decide +kernel
theorem dX5_passHour_122 : decode fX5_passHour.2.1 122 = .ok (.aload_n 0, 1) := by decide +kernel
theorem dX5_passHour_123 : decode fX5_passHour.2.1 123 = .ok (.getfield 59, 3) := by decide +kernel
theorem dX5_passHour_126 : decode fX5_passHour.2.1 126 = .ok (.if_icmp .ge 22, 3) := by decide +kernel
theorem dX5_passHour_129 : decode fX5_passHour.2.1 129 = .ok (.aload_n 0, 1) := by decide +kernel
theorem dX5_passHour_130 : decode fX5_passHour.2.1 130 = .ok (.getfield 20, 3) := by decide +kernel
theorem dX5_passHour_133 : decode fX5_passHour.2.1 133 = .ok (.iload_n 3, 1) := by decide +kernel
theorem dX5_passHour_134 : decode fX5_passHour.2.1 134 = .ok (.aaload, 1) := by decide +kernel
theorem dX5_passHour_135 : decode fX5_passHour.2.1 135 = .ok (.aload_n 0, 1) := by decide +kernel
theorem dX5_passHour_136 : decode fX5_passHour.2.1 136 = .ok (.getfield 28, 3) := by decide +kernel
theorem dX5_passHour_139 : decode fX5_passHour.2.1 139 = .ok (.invokevirtual 109, 3) := by decide +kernel
theorem dX5_passHour_142 : decode fX5_passHour.2.1 142 = .ok (.iinc 3 1, 3) := by decide +kernel
theorem dX5_passHour_145 : decode fX5_passHour.2.1 145 = .ok (.goto (-24), 3) := by decide +kernel
theorem dX5_passHour_148 : decode fX5_passHour.2.1 148 = .ok (.aload_n 0, 1) := by decide +kernel
theorem dX5_passHour_149 : decode fX5_passHour.2.1 149 = .ok (.dup, 1) := by decide +kernel
theorem dX5_passHour_150 : decode fX5_passHour.2.1 150 = .ok (.getfield 78, 3) := by decide +kernel
theorem dX5_passHour_153 : decode fX5_passHour.2.1 153 = .ok (.iconst 1, 1) := by decide +kernel
theorem dX5_passHour_154 : decode fX5_passHour.2.1 154 = .ok (.iadd, 1) := by decide +kernel
theorem dX5_passHour_155 : decode fX5_passHour.2.1 155 = .ok (.putfield 78, 3) := by decide +kernel
theorem dX5_passHour_158 : decode fX5_passHour.2.1 158 = .ok (.return_, 1) := by decide +kernel
set_option maxRecDepth 100000 in
set_option maxHeartbeats 4000000 in
theorem ok_X5_passHour {X : Xb} {S : Sg} {mi : Mem} {t n : Nat} {A : Nat → Int32} {lw : LawT} (hT : TwA S t) (hn8 : n ≤ 8) (hA : eqOn (26 + 5 * n) (tv mi t) A) (hn : A 1 = nI n) (hx : TxOk S mi t 0) (hl : lwC S mi t 0 = lw) : Ok 4 0 0 fX5_passHour X [rf X t] S mi (fun r S' m => r = none ∧ S' = S ∧ eqOn (26 + 5 * n) (tv m t) (hourF lw n A) ∧ Frt t mi m) := by
  refine Ok.go [some (rf X t), none, none, none] (by decide) (by simp [Value.category]) (Nat.le_of_ble_eq_true rfl) rfl ?_
  obtain ⟨k_t, ⟨r_t_home, k_t_home⟩, ⟨r_t_price, k_t_price⟩, ⟨r_t_attics, k_t_attics⟩, ⟨r_t_texts, k_t_texts⟩, ⟨r_t_counting, k_t_counting⟩, ⟨r_t_names, k_t_names⟩, ⟨r_t_pile, k_t_pile⟩, ⟨r_t_views, k_t_views⟩, a_t⟩ := id hT
  have s148 : ∀ m B, eqOn (26 + 5 * n) (tv m t) B → Frt t mi m → hEnd B = hourF lw n A → MW X fX5_passHour (rmOf 4 0 0) 0 0 148 [some (rf X t), none, none, none] [] S m (mQ X 0 0 (fun r S' m => r = none ∧ S' = S ∧ eqOn (26 + 5 * n) (tv m t) (hourF lw n A) ∧ Frt t mi m)) := by
    intro m B hB hF he
    refine mw_aload_n dX5_passHour_148 rfl ?_
    refine mw_dup dX5_passHour_149 rfl ?_
    refine mw_geti dX5_passHour_150 fl_X5_78 rfl (by assumption) ?_
    refine mw_iconst (v := 1) dX5_passHour_153 (by decide) ?_
    refine mw_iadd dX5_passHour_154 ?_
    refine mw_puti dX5_passHour_155 fl_X5_78 ft_5_10 rfl (rfl) rfl (by assumption) ?_
    exact mw_vret dX5_passHour_158 rfl (by decide) (by decide) (⟨rfl, rfl, by rw [← he, hEnd, ← tv_0 (j := 2) hB (by decide) (by omega)]; exact tv_up0 (j := 2) (by decide) hB, hF.up0⟩)
  have s107 : ∀ m B, eqOn (26 + 5 * n) (tv m t) B → Frt t mi m → B 1 = nI n → hEnd (hWage n B) = hourF lw n A → MW X fX5_passHour (rmOf 4 0 0) 0 0 107 [some (rf X t), none, none, none] [] S m (mQ X 0 0 (fun r S' m => r = none ∧ S' = S ∧ eqOn (26 + 5 * n) (tv m t) (hourF lw n A) ∧ Frt t mi m)) := by
    intro m B hB hF hB1 he
    have eh : m t 10 = B 2 := tv_0 (j := 2) hB (by decide) (by omega)
    have wl : jr (B 2) 24 = 6 → MW X fX5_passHour (rmOf 4 0 0) 0 0 121 [some (rf X t), none, none, some (.int (nI 0))] [] S m (mQ X 0 0 (fun r S' m => r = none ∧ S' = S ∧ eqOn (26 + 5 * n) (tv m t) (hourF lw n A) ∧ Frt t mi m)) := by
      intro h6
      have lp := mw_dn (P := fun k => ∀ m2, eqOn (26 + 5 * n) (tv m2 t) (wageTo B k) → Frt t mi m2 → MW X fX5_passHour (rmOf 4 0 0) 0 0 121 [some (rf X t), none, none, some (.int (nI k))] [] S m2 (mQ X 0 0 (fun r S' m => r = none ∧ S' = S ∧ eqOn (26 + 5 * n) (tv m t) (hourF lw n A) ∧ Frt t mi m))) n (by
        intro m2 h2 hF2
        have ec : m2 t 3 = nI n := by rw [show (3 : Nat) = tvF 1 from rfl, tv_0 h2 (by decide) (by omega), wageTo_lo (by decide), hB1]
        refine mw_iload_n dX5_passHour_121 rfl ?_
        refine mw_aload_n dX5_passHour_122 rfl ?_
        refine mw_geti dX5_passHour_123 fl_X5_59 rfl (by assumption) ?_
        refine mw_icmp_ge (tgt := 148) dX5_passHour_126 (by decide) (fun h126 => ?_) (fun h126 => ?_)
        · skip
          exact MW.back (s148 m2 _ h2 hF2 (by rw [← he, hWage, if_pos h6])) (by simp [lsub])
        · skip
          exact absurd (by rw [ec]; exact Int32.le_refl _) h126) (fun k hk ih => by
        intro m2 h2 hF2
        have ec : m2 t 3 = nI n := by rw [show (3 : Nat) = tvF 1 from rfl, tv_0 h2 (by decide) (by omega), wageTo_lo (by decide), hB1]
        have ew : m2 t 7 = wageTo B k 8 := tv_0 (j := 8) h2 (by decide) (by omega)
        have eco : m2 (t + 9 + k) 3 = wageTo B k (26 + 5 * k + 3) := tv_A h2 (by decide) (by omega)
        refine mw_iload_n dX5_passHour_121 rfl ?_
        refine mw_aload_n dX5_passHour_122 rfl ?_
        refine mw_geti dX5_passHour_123 fl_X5_59 rfl (by assumption) ?_
        refine mw_icmp_ge (tgt := 148) dX5_passHour_126 (by decide) (fun h126 => ?_) (fun h126 => ?_)
        · skip
          exact absurd h126 (by rw [ec]; exact nI_ge hk (by omega))
        · skip
          refine mw_aload_n dX5_passHour_129 rfl ?_
          refine mw_getr dX5_passHour_130 fl_X5_20 rfl (by assumption) (by assumption) ?_
          refine mw_iload_n dX5_passHour_133 rfl ?_
          refine mw_aldK (k := k) dX5_passHour_134 (by assumption) (by decide) (rfl) (by omega) (by decide) ((a_t k (by omega)).1) ?_
          refine mw_aload_n dX5_passHour_135 rfl ?_
          refine mw_geti dX5_passHour_136 fl_X5_28 rfl (by assumption) ?_
          refine mw_cVV (g := fX0_earn) dX5_passHour_139 ml_X5_109 mfX0_earn (ok_X0_earn (a_t k (by omega)).2) ((a_t k (by omega)).2) rfl rfl (Nat.le_of_ble_eq_true rfl) ⟨by decide, by decide⟩ ⟨by decide, by decide⟩ ?_
          refine mw_iincK (k := k) dX5_passHour_142 rfl rfl (by decide) ?_
          refine mw_goto (tgt := 121) dX5_passHour_145 (by decide) ?_
          refine MW.sub (by simp [lsub]) (ih _ ?_ (hF2.upA (by omega)))
          rw [ew, eco]
          exact tv_upA (by omega) (by decide) h2)
      exact lp m hB hF
    refine mw_aload_n dX5_passHour_107 rfl ?_
    refine mw_geti dX5_passHour_108 fl_X5_78 rfl (by assumption) ?_
    refine mw_bipush (v := 24) dX5_passHour_111 (by decide) ?_
    refine mw_irem dX5_passHour_113 (by decide) ?_
    refine mw_bipush (v := 6) dX5_passHour_114 (by decide) ?_
    rw [eh]
    refine mw_icmp_ne (tgt := 148) dX5_passHour_116 (by decide) (fun h116 => ?_) (fun h116 => ?_)
    · skip
      exact MW.back (s148 m B hB hF (by rw [← he, hWage, if_neg h116])) (by simp [lsub])
    · skip
      refine mw_iconst (v := 0) dX5_passHour_119 (by decide) ?_
      refine mw_istN 3 dX5_passHour_120 rfl (by decide) ?_
      exact MW.sub (by simp [lsub, nI_0]) (wl h116)
  have s78 : ∀ m B, eqOn (26 + 5 * n) (tv m t) B → Frt t mi m → B 1 = nI n → B 7 = A 7 → hEnd (hWage n (hSm A B)) = hourF lw n A → MW X fX5_passHour (rmOf 4 0 0) 0 0 78 [some (rf X t), none, some (.int (jus (nz1 (nz1 (A 0))) 8)), none] [] S m (mQ X 0 0 (fun r S' m => r = none ∧ S' = S ∧ eqOn (26 + 5 * n) (tv m t) (hourF lw n A) ∧ Frt t mi m)) := by
    intro m B hB hF hB1 hB7 he
    have es : m t 6 = A 7 := by rw [show (6 : Nat) = tvF 7 from rfl, tv_0 hB (by decide) (by omega), hB7]
    have ez : m t 11 = B 0 := tv_0 (j := 0) hB (by decide) (by omega)
    have ech : m t 4 = B 9 := tv_0 (j := 9) hB (by decide) (by omega)
    refine mw_iload_n dX5_passHour_78 rfl ?_
    refine mw_bipush (v := 100) dX5_passHour_79 (by decide) ?_
    refine mw_irem dX5_passHour_81 (by decide) ?_
    refine mw_aload_n dX5_passHour_82 rfl ?_
    refine mw_geti dX5_passHour_83 fl_X5_69 rfl (by assumption) ?_
    rw [es]
    refine mw_icmp_ge (tgt := 107) dX5_passHour_86 (by decide) (fun h86 => ?_) (fun h86 => ?_)
    · skip
      first
        | exact MW.sub (by simp [lsub]) (s107 m B hB hF hB1 (by rw [← he, hSm, if_neg (show ¬ dr2 A < A 7 from Int32.not_lt.mpr h86)]))
        | (rw [ez, ech]
           refine MW.sub (by simp [lsub]) (s107 _ _ (tv_up0 (j := 9) (by decide) (tv_up0 (j := 0) (by decide) hB)) hF.up0.up0 (by simp [upd, hB1]) ?_)
           rw [← he, hSm, if_pos (show dr2 A < A 7 from Int32.not_le.mp h86)])
    · skip
      refine mw_aload_n dX5_passHour_89 rfl ?_
      refine mw_dup dX5_passHour_90 rfl ?_
      refine mw_geti dX5_passHour_91 fl_X5_66 rfl (by assumption) ?_
      refine mw_iconst (v := 1) dX5_passHour_94 (by decide) ?_
      refine mw_aload_n dX5_passHour_95 rfl ?_
      refine mw_cVI (g := fX5_draw) dX5_passHour_96 ml_X5_89 mfX5_draw (ok_X5_draw hT) (by assumption) rfl rfl (Nat.le_of_ble_eq_true rfl) ⟨by decide, by decide⟩ ⟨by decide, by decide⟩ ?_
      refine mw_bipush (v := 24) dX5_passHour_99 (by decide) ?_
      refine mw_irem dX5_passHour_101 (by decide) ?_
      refine mw_ishl dX5_passHour_102 ?_
      refine mw_ixor dX5_passHour_103 ?_
      refine mw_puti dX5_passHour_104 fl_X5_66 ft_5_4 rfl (rfl) rfl (by assumption) ?_
      first
        | exact MW.sub (by simp [lsub]) (s107 m B hB hF hB1 (by rw [← he, hSm, if_neg (show ¬ dr2 A < A 7 from Int32.not_lt.mpr h86)]))
        | (rw [ez, ech]
           refine MW.sub (by simp [lsub]) (s107 _ _ (tv_up0 (j := 9) (by decide) (tv_up0 (j := 0) (by decide) hB)) hF.up0.up0 (by simp [upd, hB1]) ?_)
           rw [← he, hSm, if_pos (show dr2 A < A 7 from Int32.not_le.mp h86)])
  have e0 : mi t 11 = A 0 := tv_0 (j := 0) hA (by decide) (by omega)
  have e5 : mi t 5 = A 6 := tv_0 (j := 6) hA (by decide) (by omega)
  have e9 : mi t 9 = A 4 := tv_0 (j := 4) hA (by decide) (by omega)
  have hA1 : eqOn (26 + 5 * n) (tv (m_up mi t 11 (nz1 (nz1 (A 0)))) t) (hA0 A) := tv_up0 (j := 0) (by decide) hA
  have hF1 : Frt t mi (m_up mi t 11 (nz1 (nz1 (A 0)))) := (Frt.rf t mi).up0
  have pl : ¬ dr1 A < A 6 → MW X fX5_passHour (rmOf 4 0 0) 0 0 36 [some (rf X t), none, some (.int (jus (nz1 (nz1 (A 0))) 8)), some (.int (nI 0))] [] S (m_up mi t 11 (nz1 (nz1 (A 0)))) (mQ X 0 0 (fun r S' m => r = none ∧ S' = S ∧ eqOn (26 + 5 * n) (tv m t) (hourF lw n A) ∧ Frt t mi m)) := by
    intro hc
    have lp := mw_dn (P := fun k => ∀ m2, eqOn (26 + 5 * n) (tv m2 t) (paysTo lw (hA0 A) k) → Frt t mi m2 → MW X fX5_passHour (rmOf 4 0 0) 0 0 36 [some (rf X t), none, some (.int (jus (nz1 (nz1 (A 0))) 8)), some (.int (nI k))] [] S m2 (mQ X 0 0 (fun r S' m => r = none ∧ S' = S ∧ eqOn (26 + 5 * n) (tv m t) (hourF lw n A) ∧ Frt t mi m))) n (by
      intro m2 h2 hF2
      have ec : m2 t 3 = nI n := by rw [show (3 : Nat) = tvF 1 from rfl, tv_0 h2 (by decide) (by omega), paysTo_lo (by decide) (by decide)]; simp [hA0, upd, hn]
      refine mw_iload_n dX5_passHour_36 rfl ?_
      refine mw_aload_n dX5_passHour_37 rfl ?_
      refine mw_geti dX5_passHour_38 fl_X5_59 rfl (by assumption) ?_
      refine mw_icmp_ge (tgt := 78) dX5_passHour_41 (by decide) (fun h41 => ?_) (fun h41 => ?_)
      · skip
        exact MW.sub (by simp [lsub]) (s78 m2 _ h2 hF2 (by rw [paysTo_lo (by decide) (by decide)]; simp [hA0, upd, hn]) (by rw [paysTo_lo (by decide) (by decide)]; simp [hA0, upd]) (by rw [hourF, hPay, if_neg hc]))
      · skip
        exact absurd (by rw [ec]; exact Int32.le_refl _) h41) (fun k hk ih => by
      intro m2 h2 hF2
      have ec : m2 t 3 = nI n := by rw [show (3 : Nat) = tvF 1 from rfl, tv_0 h2 (by decide) (by omega), paysTo_lo (by decide) (by decide)]; simp [hA0, upd, hn]
      have hx2 := hx.fr hT hF2
      have hl2 : lwC S m2 t 0 = lw := (lwC_fr hT hx hF2).trans hl
      have er : cRent S m2 t (t + 9 + k) = rRent lw (paysTo lw (hA0 A) k) k := by rw [cRent_of h2 (by omega), hl2]
      have hka := (a_t k (by omega)).2
      refine mw_iload_n dX5_passHour_36 rfl ?_
      refine mw_aload_n dX5_passHour_37 rfl ?_
      refine mw_geti dX5_passHour_38 fl_X5_59 rfl (by assumption) ?_
      refine mw_icmp_ge (tgt := 78) dX5_passHour_41 (by decide) (fun h41 => ?_) (fun h41 => ?_)
      · skip
        exact absurd h41 (by rw [ec]; exact nI_ge hk (by omega))
      · skip
        refine mw_aload_n dX5_passHour_44 rfl ?_
        refine mw_dup dX5_passHour_45 rfl ?_
        refine mw_geti dX5_passHour_46 fl_X5_72 rfl (by assumption) ?_
        refine mw_aload_n dX5_passHour_49 rfl ?_
        refine mw_getr dX5_passHour_50 fl_X5_20 rfl (by assumption) (by assumption) ?_
        refine mw_iload_n dX5_passHour_53 rfl ?_
        refine mw_aldK (k := k) dX5_passHour_54 (by assumption) (by decide) (rfl) (by omega) (by decide) ((a_t k (by omega)).1) ?_
        refine mw_aload_n dX5_passHour_55 rfl ?_
        refine mw_aload_n dX5_passHour_56 rfl ?_
        refine mw_getr dX5_passHour_57 fl_X5_20 rfl (by assumption) (by assumption) ?_
        refine mw_iload_n dX5_passHour_60 rfl ?_
        refine mw_aldK (k := k) dX5_passHour_61 (by assumption) (by decide) (rfl) (by omega) (by decide) ((a_t k (by omega)).1) ?_
        refine mw_callV (g := fX5_rentOf) dX5_passHour_62 ml_X5_101 mfX5_rentOf (ok_rentOf hT hka hx2) (by assumption) rfl rfl (Nat.le_of_ble_eq_true rfl) ⟨by decide, by decide⟩ ⟨by decide, by decide⟩ (fun r S2 mi2 hp => ?_)
        obtain ⟨rfl, e1, hs⟩ := hp
        rw [e1, er]
        have h3 := tv_scr hs h2
        have et : m2 t 8 = paysTo lw (hA0 A) k 3 := tv_0 (j := 3) h2 (by decide) (by omega)
        have eco : mi2 (t + 9 + k) 3 = paysTo lw (hA0 A) k (26 + 5 * k + 3) := tv_A h3 (by decide) (by omega)
        have eow : mi2 (t + 9 + k) 4 = paysTo lw (hA0 A) k (26 + 5 * k + 4) := tv_A h3 (by decide) (by omega)
        refine mw_cVI (g := fX0_pay) dX5_passHour_65 ml_X5_105 mfX0_pay (ok_X0_pay hka) (hka) rfl rfl (Nat.le_of_ble_eq_true rfl) ⟨by decide, by decide⟩ ⟨by decide, by decide⟩ ?_
        rw [et, eco, eow]
        refine mw_iadd dX5_passHour_68 ?_
        refine mw_puti dX5_passHour_69 fl_X5_72 ft_5_8 rfl (rfl) rfl (by assumption) ?_
        refine mw_iincK (k := k) dX5_passHour_72 rfl rfl (by decide) ?_
        refine mw_goto (tgt := 36) dX5_passHour_75 (by decide) ?_
        exact MW.sub (by simp [lsub]) (ih _ (tv_up0 (j := 3) (by decide) (tv_upA (by omega) (by decide) (tv_upA (by omega) (by decide) h3))) ((((hF2.tr (Frt.scr hs)).upA (by omega)).upA (by omega)).up0)))
    exact lp _ hA1 hF1
  refine mw_aload_n dX5_passHour_0 rfl ?_
  refine mw_cVI (g := fX5_draw) dX5_passHour_1 ml_X5_89 mfX5_draw (ok_X5_draw hT) (by assumption) rfl rfl (Nat.le_of_ble_eq_true rfl) ⟨by decide, by decide⟩ ⟨by decide, by decide⟩ ?_
  refine mw_istN 1 dX5_passHour_4 rfl (by decide) ?_
  refine mw_aload_n dX5_passHour_5 rfl ?_
  refine mw_cVI (g := fX5_draw) dX5_passHour_6 ml_X5_89 mfX5_draw (ok_X5_draw hT) (by assumption) rfl rfl (Nat.le_of_ble_eq_true rfl) ⟨by decide, by decide⟩ ⟨by decide, by decide⟩ ?_
  rw [m_up_at, m_up_up, e0]
  refine mw_istN 2 dX5_passHour_9 rfl (by decide) ?_
  refine mw_iload_n dX5_passHour_10 rfl ?_
  refine mw_bipush (v := 100) dX5_passHour_11 (by decide) ?_
  refine mw_irem dX5_passHour_13 (by decide) ?_
  refine mw_aload_n dX5_passHour_14 rfl ?_
  refine mw_geti dX5_passHour_15 fl_X5_24 rfl (by assumption) ?_
  rw [m_up_of (show (5 : Nat) ≠ 11 by decide), e5]
  refine mw_icmp_ge (tgt := 34) dX5_passHour_18 (by decide) (fun h18 => ?_) (fun h18 => ?_)
  · skip
    refine mw_iconst (v := 0) dX5_passHour_34 (by decide) ?_
    refine mw_istN 3 dX5_passHour_35 rfl (by decide) ?_
    exact MW.sub (by simp [lsub, nI_0]) (pl (Int32.not_lt.mpr h18))
  · skip
    refine mw_aload_n dX5_passHour_21 rfl ?_
    refine mw_dup dX5_passHour_22 rfl ?_
    refine mw_geti dX5_passHour_23 fl_X5_75 rfl (by assumption) ?_
    rw [m_up_of (show (9 : Nat) ≠ 11 by decide), e9]
    refine mw_iconst (v := 1) dX5_passHour_26 (by decide) ?_
    refine mw_iadd dX5_passHour_27 ?_
    refine mw_puti dX5_passHour_28 fl_X5_75 ft_5_9 rfl (rfl) rfl (by assumption) ?_
    refine mw_goto (tgt := 78) dX5_passHour_31 (by decide) ?_
    exact MW.sub (by simp [lsub]) (s78 _ _ (tv_up0 (j := 4) (by decide) hA1) hF1.up0 (by simp [hA0, upd, hn]) (by simp [hA0, upd]) (by rw [hourF, hPay, if_pos (show dr1 A < A 6 from Int32.not_le.mp h18)]))
