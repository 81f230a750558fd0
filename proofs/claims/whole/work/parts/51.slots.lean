/-! the object's slots, rows that wait, counts -/
def SlotA (x i : Nat) : Nat := x + 67 + 4 * i
def cLay (mi : Mem) (x n : Nat) (v w k : Int32) : Int32 × Mem := if (0 ≤ v ∧ v ≤ 4) ∧ (0 ≤ w ∧ w ≤ 3) ∧ (w = 1 → 0 ≤ k ∧ k ≤ nI n - 1) ∧ (w = 2 → 0 ≤ k ∧ k ≤ 3) then (if w = 2 ∧ mi (x + 59 + 2 * k.toNatClampNeg) 1 = -1 then (NOTHINGi, mi) else (mi (x + 67 + 4 * v.toNatClampNeg) 0, if w = 1 then m_up (m_up (m_up (m_up (m_up (m_up mi (x + 67 + 4 * v.toNatClampNeg) 0 w) (x + 67 + 4 * v.toNatClampNeg + 1) 0 (mi (x + 1 + 9 + k.toNatClampNeg) 0)) (x + 67 + 4 * v.toNatClampNeg + 1) 1 (mi (x + 1 + 9 + k.toNatClampNeg) 1)) (x + 67 + 4 * v.toNatClampNeg + 1) 2 (mi (x + 1 + 9 + k.toNatClampNeg) 2)) (x + 67 + 4 * v.toNatClampNeg + 1) 3 (mi (x + 1 + 9 + k.toNatClampNeg) 3)) (x + 67 + 4 * v.toNatClampNeg + 1) 4 (mi (x + 1 + 9 + k.toNatClampNeg) 4) else if w = 2 then m_cpy (m_up (m_up (m_up mi (x + 67 + 4 * v.toNatClampNeg) 0 w) (x + 67 + 4 * v.toNatClampNeg + 2) 1 (mi (x + 59 + 2 * k.toNatClampNeg) 1)) (x + 67 + 4 * v.toNatClampNeg + 2) 2 (mi (x + 59 + 2 * k.toNatClampNeg) 2)) (x + 59 + 2 * k.toNatClampNeg + 1) (x + 67 + 4 * v.toNatClampNeg + 2 + 1) 0 0 24 else if w = 3 then m_up (m_up mi (x + 67 + 4 * v.toNatClampNeg) 0 w) (x + 67 + 4 * v.toNatClampNeg) 3 k else m_up mi (x + 67 + 4 * v.toNatClampNeg) 0 w)) else (BADi, mi)
theorem dX6_lay_0 : decode fX6_lay.2.1 0 = .ok (.iload_n 1, 1) := by decide +kernel
theorem dX6_lay_1 : decode fX6_lay.2.1 1 = .ok (.invokestatic 274, 3) := by decide +kernel
theorem dX6_lay_4 : decode fX6_lay.2.1 4 = .ok (.ifCond .eq 37, 3) := by decide +kernel
theorem dX6_lay_7 : decode fX6_lay.2.1 7 = .ok (.iload_n 2, 1) := by decide +kernel
theorem dX6_lay_8 : decode fX6_lay.2.1 8 = .ok (.iconst 0, 1) := by decide +kernel
theorem dX6_lay_9 : decode fX6_lay.2.1 9 = .ok (.iconst 3, 1) := by decide +kernel
theorem dX6_lay_10 : decode fX6_lay.2.1 10 = .ok (.invokestatic 50, 3) := by decide +kernel
theorem dX6_lay_13 : decode fX6_lay.2.1 13 = .ok (.ifCond .eq 28, 3) := by decide +kernel
theorem dX6_lay_16 : decode fX6_lay.2.1 16 = .ok (.iload_n 2, 1) := by decide +kernel
theorem dX6_lay_17 : decode fX6_lay.2.1 17 = .ok (.iconst 1, 1) := by decide +kernel
theorem dX6_lay_18 : decode fX6_lay.2.1 18 = .ok (.if_icmp .ne 11, 3) := by decide +kernel
theorem dX6_lay_21 : decode fX6_lay.2.1 21 = .ok (.aload_n 0, 1) := by decide +kernel
theorem dX6_lay_22 : decode fX6_lay.2.1 22 = .ok (.iload_n 3, 1) := by decide +kernel
theorem dX6_lay_23 : decode fX6_lay.2.1 23 = .ok (.invokevirtual 63, 3) := by decide +kernel
theorem dX6_lay_26 : decode fX6_lay.2.1 26 = .ok (.ifCond .eq 15, 3) := by decide +kernel
theorem dX6_lay_29 : decode fX6_lay.2.1 29 = .ok (.iload_n 2, 1) := by decide +kernel
theorem dX6_lay_30 : decode fX6_lay.2.1 30 = .ok (.iconst 2, 1) := by decide +kernel
theorem dX6_lay_31 : decode fX6_lay.2.1 31 = .ok (.if_icmp .ne 13, 3) := by decide +kernel
theorem dX6_lay_34 : decode fX6_lay.2.1 34 = .ok (.iload_n 3, 1) := by decide +kernel
theorem dX6_lay_35 : decode fX6_lay.2.1 35 = .ok (.invokestatic 187, 3) := by decide +kernel
theorem dX6_lay_38 : decode fX6_lay.2.1 38 = .ok (.ifCond .ne 6, 3) := by decide +kernel
theorem dX6_lay_41 : decode fX6_lay.2.1 41 = .ok (.ldc 58, 2) := by decide +kernel
theorem dX6_lay_43 : decode fX6_lay.2.1 43 = .ok (.ireturn, 1) := by decide +kernel
theorem dX6_lay_44 : decode fX6_lay.2.1 44 = .ok (.iload_n 2, 1) := by decide +kernel
theorem dX6_lay_45 : decode fX6_lay.2.1 45 = .ok (.iconst 2, 1) := by decide +kernel
theorem dX6_lay_46 : decode fX6_lay.2.1 46 = .ok (.if_icmp .ne 19, 3) := by decide +kernel
theorem dX6_lay_49 : decode fX6_lay.2.1 49 = .ok (.aload_n 0, 1) := by decide +kernel
theorem dX6_lay_50 : decode fX6_lay.2.1 50 = .ok (.getfield 31, 3) := by decide +kernel
theorem dX6_lay_53 : decode fX6_lay.2.1 53 = .ok (.iload_n 3, 1) := by decide +kernel
theorem dX6_lay_54 : decode fX6_lay.2.1 54 = .ok (.aaload, 1) := by decide +kernel
theorem dX6_lay_55 : decode fX6_lay.2.1 55 = .ok (.getfield 190, 3) := by decide +kernel
theorem dX6_lay_58 : decode fX6_lay.2.1 58 = .ok (.iconst (-1), 1) := by decide +kernel
theorem dX6_lay_59 : decode fX6_lay.2.1 59 = .ok (.if_icmp .ne 6, 3) := by decide +kernel
theorem dX6_lay_62 : decode fX6_lay.2.1 62 = .ok (.ldc 193, 2) := by decide +kernel
theorem dX6_lay_64 : decode fX6_lay.2.1 64 = .ok (.ireturn, 1) := by decide +kernel
theorem dX6_lay_65 : decode fX6_lay.2.1 65 = .ok (.aload_n 0, 1) := by decide +kernel
theorem dX6_lay_66 : decode fX6_lay.2.1 66 = .ok (.getfield 37, 3) := by decide +kernel
theorem dX6_lay_69 : decode fX6_lay.2.1 69 = .ok (.iload_n 1, 1) := by decide +kernel
theorem dX6_lay_70 : decode fX6_lay.2.1 70 = .ok (.aaload, 1) := by decide +kernel
theorem dX6_lay_71 : decode fX6_lay.2.1 71 = .ok (.astore 4, 2) := by decide +kernel
theorem dX6_lay_73 : decode fX6_lay.2.1 73 = .ok (.aload 4, 2) := by decide +kernel
theorem dX6_lay_75 : decode fX6_lay.2.1 75 = .ok (.getfield 277, 3) := by decide +kernel
theorem dX6_lay_78 : decode fX6_lay.2.1 78 = .ok (.istore 5, 2) := by decide +kernel
theorem dX6_lay_80 : decode fX6_lay.2.1 80 = .ok (.aload 4, 2) := by decide +kernel
theorem dX6_lay_82 : decode fX6_lay.2.1 82 = .ok (.iload_n 2, 1) := by decide +kernel
theorem dX6_lay_83 : decode fX6_lay.2.1 83 = .ok (.putfield 277, 3) := by decide +kernel
theorem dX6_lay_86 : decode fX6_lay.2.1 86 = .ok (.iload_n 2, 1) := by decide +kernel
theorem dX6_lay_87 : decode fX6_lay.2.1 87 = .ok (.iconst 1, 1) := by decide +kernel
theorem dX6_lay_88 : decode fX6_lay.2.1 88 = .ok (.if_icmp .ne 23, 3) := by decide +kernel
theorem dX6_lay_91 : decode fX6_lay.2.1 91 = .ok (.aload 4, 2) := by decide +kernel
theorem dX6_lay_93 : decode fX6_lay.2.1 93 = .ok (.getfield 280, 3) := by decide +kernel
theorem dX6_lay_96 : decode fX6_lay.2.1 96 = .ok (.aload_n 0, 1) := by decide +kernel
theorem dX6_lay_97 : decode fX6_lay.2.1 97 = .ok (.getfield 10, 3) := by decide +kernel
theorem dX6_lay_100 : decode fX6_lay.2.1 100 = .ok (.getfield 66, 3) := by decide +kernel
theorem dX6_lay_103 : decode fX6_lay.2.1 103 = .ok (.iload_n 3, 1) := by decide +kernel
theorem dX6_lay_104 : decode fX6_lay.2.1 104 = .ok (.aaload, 1) := by decide +kernel
theorem dX6_lay_105 : decode fX6_lay.2.1 105 = .ok (.invokevirtual 284, 3) := by decide +kernel
theorem dX6_lay_108 : decode fX6_lay.2.1 108 = .ok (.goto 36, 3) := by decide +kernel
theorem dX6_lay_111 : decode fX6_lay.2.1 111 = .ok (.iload_n 2, 1) := by decide +kernel
theorem dX6_lay_112 : decode fX6_lay.2.1 112 = .ok (.iconst 2, 1) := by decide +kernel
theorem dX6_lay_113 : decode fX6_lay.2.1 113 = .ok (.if_icmp .ne 20, 3) := by decide +kernel
theorem dX6_lay_116 : decode fX6_lay.2.1 116 = .ok (.aload 4, 2) := by decide +kernel
theorem dX6_lay_118 : decode fX6_lay.2.1 118 = .ok (.getfield 287, 3) := by decide +kernel
theorem dX6_lay_121 : decode fX6_lay.2.1 121 = .ok (.aload_n 0, 1) := by decide +kernel
theorem dX6_lay_122 : decode fX6_lay.2.1 122 = .ok (.getfield 31, 3) := by decide +kernel
theorem dX6_lay_125 : decode fX6_lay.2.1 125 = .ok (.iload_n 3, 1) := by decide +kernel
theorem dX6_lay_126 : decode fX6_lay.2.1 126 = .ok (.aaload, 1) := by decide +kernel
theorem dX6_lay_127 : decode fX6_lay.2.1 127 = .ok (.invokevirtual 291, 3) := by decide +kernel
theorem dX6_lay_130 : decode fX6_lay.2.1 130 = .ok (.goto 14, 3) := by decide +kernel
theorem dX6_lay_133 : decode fX6_lay.2.1 133 = .ok (.iload_n 2, 1) := by decide +kernel
theorem dX6_lay_134 : decode fX6_lay.2.1 134 = .ok (.iconst 3, 1) := by decide +kernel
theorem dX6_lay_135 : decode fX6_lay.2.1 135 = .ok (.if_icmp .ne 9, 3) := by decide +kernel
theorem dX6_lay_138 : decode fX6_lay.2.1 138 = .ok (.aload 4, 2) := by decide +kernel
theorem dX6_lay_140 : decode fX6_lay.2.1 140 = .ok (.iload_n 3, 1) := by decide +kernel
theorem dX6_lay_141 : decode fX6_lay.2.1 141 = .ok (.putfield 293, 3) := by decide +kernel
theorem dX6_lay_144 : decode fX6_lay.2.1 144 = .ok (.iload 5, 2) := by decide +kernel
theorem dX6_lay_146 : decode fX6_lay.2.1 146 = .ok (.ireturn, 1) := by decide +kernel
set_option maxRecDepth 100000 in
set_option maxHeartbeats 4000000 in
theorem ok_X6_lay {X : Xb} {S : Sg} {mi : Mem} {x n : Nat} {v w k : Int32} (hX : AsA S x) (hn : mi (x + 1) 3 = nI n) (hn8 : n ≤ 8) : Ok 2 0 0 fX6_lay X [rf X x, .int v, .int w, .int k] S mi (PE S (cLay mi x n v w k)) := by
  refine Ok.go [some (rf X x), some (.int v), some (.int w), some (.int k), none, none] (by decide) (by simp [Value.category]) (Nat.le_of_ble_eq_true rfl) rfl ?_
  obtain ⟨k_x, ⟨r_x_now, t_now⟩, ⟨r_x_thought, t_thought⟩, ⟨r_x_image, t_image⟩, ⟨r_x_tape, t_tape⟩, ⟨r_x_sheets, k_x_sheets⟩, ⟨r_x_slots, k_x_slots⟩, ⟨r_x_waiting, k_x_waiting⟩, ⟨r_x_diff, k_x_diff⟩, a_sheets, a_slots⟩ := id hX
  obtain ⟨k_t, ⟨r_t_home, k_t_home⟩, ⟨r_t_price, k_t_price⟩, ⟨r_t_attics, k_t_attics⟩, ⟨r_t_texts, k_t_texts⟩, ⟨r_t_counting, k_t_counting⟩, ⟨r_t_names, k_t_names⟩, ⟨r_t_pile, k_t_pile⟩, ⟨r_t_views, k_t_views⟩, a_t⟩ := id t_now
  have s65 : ∀ i, i < 5 → v = nI i → (0 ≤ w ∧ w ≤ 3) → (w = 1 → 0 ≤ k ∧ k ≤ nI n - 1) → (w = 2 → 0 ≤ k ∧ k ≤ 3) → ¬ (w = 2 ∧ mi (x + 59 + 2 * k.toNatClampNeg) 1 = -1) → MW X fX6_lay (rmOf 2 0 0) 0 0 65 [some (rf X x), some (.int (nI i)), some (.int w), some (.int k), none, none] [] S mi (mQ X 0 0 (PE S (cLay mi x n v w k))) := by
    intro i hi hv g1 g2 g3 g4
    have gv : 0 ≤ v ∧ v ≤ 4 := by rw [hv]; exact ⟨nI_pos' (by omega), nI_le (b := 4) (by omega) (by decide)⟩
    have ev : v.toNatClampNeg = i := by rw [hv, nI_clamp (by omega)]
    have hs := (a_slots i hi).2
    obtain ⟨k_sl, ⟨r_sl_attic, k_sl_attic⟩, r_sl_sheet, s_sl⟩ := id hs
    refine mw_aload_n dX6_lay_65 rfl ?_
    refine mw_getr dX6_lay_66 fl_X6_37 rfl (by assumption) (by assumption) ?_
    refine mw_iload_n dX6_lay_69 rfl ?_
    refine mw_aldK (k := i) dX6_lay_70 (by assumption) (by decide) (rfl) (by omega) (by decide) ((a_slots i hi).1) ?_
    refine mw_astore dX6_lay_71 (by decide) ?_
    refine mw_aload dX6_lay_73 rfl ?_
    refine mw_geti dX6_lay_75 fl_X6_277 rfl (k_sl) ?_
    refine mw_istore dX6_lay_78 (by decide) ?_
    refine mw_aload dX6_lay_80 rfl ?_
    refine mw_iload_n dX6_lay_82 rfl ?_
    refine mw_puti dX6_lay_83 fl_X6_277 ft_2_0 rfl (rfl) rfl (k_sl) ?_
    refine mw_iload_n dX6_lay_86 rfl ?_
    refine mw_iconst (v := 1) dX6_lay_87 (by decide) ?_
    refine mw_icmp_ne (tgt := 111) dX6_lay_88 (by decide) (fun h88 => ?_) (fun h88 => ?_)
    · skip
      refine mw_iload_n dX6_lay_111 rfl ?_
      refine mw_iconst (v := 2) dX6_lay_112 (by decide) ?_
      refine mw_icmp_ne (tgt := 133) dX6_lay_113 (by decide) (fun h113 => ?_) (fun h113 => ?_)
      · skip
        refine mw_iload_n dX6_lay_133 rfl ?_
        refine mw_iconst (v := 3) dX6_lay_134 (by decide) ?_
        refine mw_icmp_ne (tgt := 144) dX6_lay_135 (by decide) (fun h135 => ?_) (fun h135 => ?_)
        · skip
          refine mw_iload dX6_lay_144 rfl ?_
          exact mw_iret dX6_lay_146 rfl (by decide) (by decide) (by first | (rw [cLay, if_pos ⟨gv, g1, g2, g3⟩, if_neg g4, ev, ek, if_pos h88]; exact ⟨rfl, rfl, rfl⟩) | (rw [cLay, if_pos ⟨gv, g1, g2, g3⟩, if_neg g4, ev, ek, if_neg h88, if_pos h113]; exact ⟨rfl, rfl, rfl⟩) | (rw [cLay, if_pos ⟨gv, g1, g2, g3⟩, if_neg g4, ev, if_neg h88, if_neg h113, if_pos h135]; exact ⟨rfl, rfl, rfl⟩) | (rw [cLay, if_pos ⟨gv, g1, g2, g3⟩, if_neg g4, ev, if_neg h88, if_neg h113, if_neg h135]; exact ⟨rfl, rfl, rfl⟩) | fail "leaf")
        · skip
          refine mw_aload dX6_lay_138 rfl ?_
          refine mw_iload_n dX6_lay_140 rfl ?_
          refine mw_puti dX6_lay_141 fl_X6_293 ft_2_3 rfl (rfl) rfl (k_sl) ?_
          refine mw_iload dX6_lay_144 rfl ?_
          exact mw_iret dX6_lay_146 rfl (by decide) (by decide) (by first | (rw [cLay, if_pos ⟨gv, g1, g2, g3⟩, if_neg g4, ev, ek, if_pos h88]; exact ⟨rfl, rfl, rfl⟩) | (rw [cLay, if_pos ⟨gv, g1, g2, g3⟩, if_neg g4, ev, ek, if_neg h88, if_pos h113]; exact ⟨rfl, rfl, rfl⟩) | (rw [cLay, if_pos ⟨gv, g1, g2, g3⟩, if_neg g4, ev, if_neg h88, if_neg h113, if_pos h135]; exact ⟨rfl, rfl, rfl⟩) | (rw [cLay, if_pos ⟨gv, g1, g2, g3⟩, if_neg g4, ev, if_neg h88, if_neg h113, if_neg h135]; exact ⟨rfl, rfl, rfl⟩) | fail "leaf")
      · skip
        obtain ⟨b, hb, hk⟩ := inB 3 (by decide) (g3 h113)
        have ek : k.toNatClampNeg = b := by rw [hk, nI_clamp (by omega)]
        have hsh := (a_sheets b (by omega)).2
        have em : m_up mi (x + 67 + 4 * i) 0 w (x + 59 + 2 * b) = mi (x + 59 + 2 * b) := m_up_ne (by omega)
        refine mw_aload dX6_lay_116 rfl ?_
        refine mw_getr dX6_lay_118 fl_X6_287 rfl (k_sl) (r_sl_sheet) ?_
        refine mw_aload_n dX6_lay_121 rfl ?_
        refine mw_getr dX6_lay_122 fl_X6_31 rfl (by assumption) (by assumption) ?_
        refine mw_iload_n dX6_lay_125 rfl ?_
        refine mw_aldK (k := b) dX6_lay_126 (by assumption) (by decide) (hk) (by omega) (by decide) ((a_sheets b (by omega)).1) ?_
        refine mw_cVV (g := fX1_takeAfter) dX6_lay_127 ml_X6_291 mfX1_takeAfter (ok_X1_takeAfter s_sl hsh (by omega)) (s_sl.1) rfl rfl (Nat.le_of_ble_eq_true rfl) ⟨by decide, by decide⟩ ⟨by decide, by decide⟩ ?_
        rw [em]
        refine mw_goto (tgt := 144) dX6_lay_130 (by decide) ?_
        refine mw_iload dX6_lay_144 rfl ?_
        exact mw_iret dX6_lay_146 rfl (by decide) (by decide) (by first | (rw [cLay, if_pos ⟨gv, g1, g2, g3⟩, if_neg g4, ev, ek, if_pos h88]; exact ⟨rfl, rfl, rfl⟩) | (rw [cLay, if_pos ⟨gv, g1, g2, g3⟩, if_neg g4, ev, ek, if_neg h88, if_pos h113]; exact ⟨rfl, rfl, rfl⟩) | (rw [cLay, if_pos ⟨gv, g1, g2, g3⟩, if_neg g4, ev, if_neg h88, if_neg h113, if_pos h135]; exact ⟨rfl, rfl, rfl⟩) | (rw [cLay, if_pos ⟨gv, g1, g2, g3⟩, if_neg g4, ev, if_neg h88, if_neg h113, if_neg h135]; exact ⟨rfl, rfl, rfl⟩) | fail "leaf")
    · skip
      obtain ⟨a, han, hk⟩ := inAt (g2 h88) hn8
      have ek : k.toNatClampNeg = a := by rw [hk, nI_clamp (by omega)]
      have hka := (a_t a (by omega)).2
      have nn : x + 67 + 4 * i ≠ x + 1 + 9 + a := by omega
      have em : m_up mi (x + 67 + 4 * i) 0 w (x + 1 + 9 + a) = mi (x + 1 + 9 + a) := m_up_ne (by omega)
      refine mw_aload dX6_lay_91 rfl ?_
      refine mw_getr dX6_lay_93 fl_X6_280 rfl (k_sl) (r_sl_attic) ?_
      refine mw_aload_n dX6_lay_96 rfl ?_
      refine mw_getr dX6_lay_97 fl_X6_10 rfl (by assumption) (by assumption) ?_
      refine mw_getr dX6_lay_100 fl_X6_66 rfl (by assumption) (by assumption) ?_
      refine mw_iload_n dX6_lay_103 rfl ?_
      refine mw_aldK (k := a) dX6_lay_104 (by assumption) (by decide) (hk) (by omega) (by decide) ((a_t a (by omega)).1) ?_
      refine mw_cVV (g := fX0_takeAfter) dX6_lay_105 ml_X6_284 mfX0_takeAfter (ok_X0_takeAfter k_sl_attic hka (by omega)) (k_sl_attic) rfl rfl (Nat.le_of_ble_eq_true rfl) ⟨by decide, by decide⟩ ⟨by decide, by decide⟩ ?_
      rw [em]
      refine mw_goto (tgt := 144) dX6_lay_108 (by decide) ?_
      refine mw_iload dX6_lay_144 rfl ?_
      exact mw_iret dX6_lay_146 rfl (by decide) (by decide) (by first | (rw [cLay, if_pos ⟨gv, g1, g2, g3⟩, if_neg g4, ev, ek, if_pos h88]; exact ⟨rfl, rfl, rfl⟩) | (rw [cLay, if_pos ⟨gv, g1, g2, g3⟩, if_neg g4, ev, ek, if_neg h88, if_pos h113]; exact ⟨rfl, rfl, rfl⟩) | (rw [cLay, if_pos ⟨gv, g1, g2, g3⟩, if_neg g4, ev, if_neg h88, if_neg h113, if_pos h135]; exact ⟨rfl, rfl, rfl⟩) | (rw [cLay, if_pos ⟨gv, g1, g2, g3⟩, if_neg g4, ev, if_neg h88, if_neg h113, if_neg h135]; exact ⟨rfl, rfl, rfl⟩) | fail "leaf")
  refine mw_iload_n dX6_lay_0 rfl ?_
  refine mw_cSI (g := fX6_isSlot) dX6_lay_1 ml_X6_274 mfX6_isSlot (ok_X6_isSlot) rfl rfl (Nat.le_of_ble_eq_true rfl) ⟨by decide, by decide⟩ ⟨by decide, by decide⟩ ?_
  refine mw_if_eqB (tgt := 41) dX6_lay_4 (by decide) (fun h4 => ?_) (fun h4 => ?_)
  · skip
    refine mw_ldc dX6_lay_41 cn_X6_58 ?_
    exact mw_iret dX6_lay_43 rfl (by decide) (by decide) (by rw [cLay, if_neg (by grind)]; exact ⟨rfl, rfl, rfl⟩)
  · skip
    refine mw_iload_n dX6_lay_7 rfl ?_
    refine mw_iconst (v := 0) dX6_lay_8 (by decide) ?_
    refine mw_iconst (v := 3) dX6_lay_9 (by decide) ?_
    refine mw_cSI (g := fX6_within) dX6_lay_10 ml_X6_50 mfX6_within (ok_X6_within) rfl rfl (Nat.le_of_ble_eq_true rfl) ⟨by decide, by decide⟩ ⟨by decide, by decide⟩ ?_
    refine mw_if_eqB (tgt := 41) dX6_lay_13 (by decide) (fun h13 => ?_) (fun h13 => ?_)
    · skip
      refine mw_ldc dX6_lay_41 cn_X6_58 ?_
      exact mw_iret dX6_lay_43 rfl (by decide) (by decide) (by rw [cLay, if_neg (by grind)]; exact ⟨rfl, rfl, rfl⟩)
    · skip
      refine mw_iload_n dX6_lay_16 rfl ?_
      refine mw_iconst (v := 1) dX6_lay_17 (by decide) ?_
      refine mw_icmp_ne (tgt := 29) dX6_lay_18 (by decide) (fun h18 => ?_) (fun h18 => ?_)
      · skip
        refine mw_iload_n dX6_lay_29 rfl ?_
        refine mw_iconst (v := 2) dX6_lay_30 (by decide) ?_
        refine mw_icmp_ne (tgt := 44) dX6_lay_31 (by decide) (fun h31 => ?_) (fun h31 => ?_)
        · skip
          refine mw_iload_n dX6_lay_44 rfl ?_
          refine mw_iconst (v := 2) dX6_lay_45 (by decide) ?_
          refine mw_icmp_ne (tgt := 65) dX6_lay_46 (by decide) (fun h46 => ?_) (fun h46 => ?_)
          · skip
            obtain ⟨i, hi, hv⟩ := inB 4 (by decide) h4
            have gg := s65 i (by omega) hv h13 (by grind) (by grind) (by grind)
            rw [← hv] at gg
            exact MW.sub (by simp [lsub]) gg
          · skip
            have g38 : 0 ≤ k ∧ k ≤ 3 := by grind
            obtain ⟨b, hb, hk⟩ := inB 3 (by decide) g38
            have ek : k.toNatClampNeg = b := by rw [hk, nI_clamp (by omega)]
            have hsh := (a_sheets b (by omega)).2
            refine mw_aload_n dX6_lay_49 rfl ?_
            refine mw_getr dX6_lay_50 fl_X6_31 rfl (by assumption) (by assumption) ?_
            refine mw_iload_n dX6_lay_53 rfl ?_
            refine mw_aldK (k := b) dX6_lay_54 (by assumption) (by decide) (hk) (by omega) (by decide) ((a_sheets b (by omega)).1) ?_
            refine mw_geti dX6_lay_55 fl_X6_190 rfl (hsh.1) ?_
            rw [← ek]
            refine mw_iconst (v := (-1)) dX6_lay_58 (by decide) ?_
            refine mw_icmp_ne (tgt := 65) dX6_lay_59 (by decide) (fun h59 => ?_) (fun h59 => ?_)
            · skip
              obtain ⟨i, hi, hv⟩ := inB 4 (by decide) h4
              have gg := s65 i (by omega) hv h13 (by grind) (by grind) (by grind)
              rw [← hv] at gg
              exact MW.sub (by simp [lsub]) gg
            · skip
              refine mw_ldc dX6_lay_62 cn_X6_193 ?_
              exact mw_iret dX6_lay_64 rfl (by decide) (by decide) (by rw [cLay, if_pos (by grind), if_pos ⟨h46, h59⟩]; exact ⟨rfl, rfl, rfl⟩)
        · skip
          refine mw_iload_n dX6_lay_34 rfl ?_
          refine mw_cSI (g := fX6_isSheet) dX6_lay_35 ml_X6_187 mfX6_isSheet (ok_X6_isSheet) rfl rfl (Nat.le_of_ble_eq_true rfl) ⟨by decide, by decide⟩ ⟨by decide, by decide⟩ ?_
          refine mw_if_neB (tgt := 44) dX6_lay_38 (by decide) (fun h38 => ?_) (fun h38 => ?_)
          · skip
            refine mw_iload_n dX6_lay_44 rfl ?_
            refine mw_iconst (v := 2) dX6_lay_45 (by decide) ?_
            refine mw_icmp_ne (tgt := 65) dX6_lay_46 (by decide) (fun h46 => ?_) (fun h46 => ?_)
            · skip
              obtain ⟨i, hi, hv⟩ := inB 4 (by decide) h4
              have gg := s65 i (by omega) hv h13 (by grind) (by grind) (by grind)
              rw [← hv] at gg
              exact MW.sub (by simp [lsub]) gg
            · skip
              have g38 : 0 ≤ k ∧ k ≤ 3 := by grind
              obtain ⟨b, hb, hk⟩ := inB 3 (by decide) g38
              have ek : k.toNatClampNeg = b := by rw [hk, nI_clamp (by omega)]
              have hsh := (a_sheets b (by omega)).2
              refine mw_aload_n dX6_lay_49 rfl ?_
              refine mw_getr dX6_lay_50 fl_X6_31 rfl (by assumption) (by assumption) ?_
              refine mw_iload_n dX6_lay_53 rfl ?_
              refine mw_aldK (k := b) dX6_lay_54 (by assumption) (by decide) (hk) (by omega) (by decide) ((a_sheets b (by omega)).1) ?_
              refine mw_geti dX6_lay_55 fl_X6_190 rfl (hsh.1) ?_
              rw [← ek]
              refine mw_iconst (v := (-1)) dX6_lay_58 (by decide) ?_
              refine mw_icmp_ne (tgt := 65) dX6_lay_59 (by decide) (fun h59 => ?_) (fun h59 => ?_)
              · skip
                obtain ⟨i, hi, hv⟩ := inB 4 (by decide) h4
                have gg := s65 i (by omega) hv h13 (by grind) (by grind) (by grind)
                rw [← hv] at gg
                exact MW.sub (by simp [lsub]) gg
              · skip
                refine mw_ldc dX6_lay_62 cn_X6_193 ?_
                exact mw_iret dX6_lay_64 rfl (by decide) (by decide) (by rw [cLay, if_pos (by grind), if_pos ⟨h46, h59⟩]; exact ⟨rfl, rfl, rfl⟩)
          · skip
            refine mw_ldc dX6_lay_41 cn_X6_58 ?_
            exact mw_iret dX6_lay_43 rfl (by decide) (by decide) (by rw [cLay, if_neg (by grind)]; exact ⟨rfl, rfl, rfl⟩)
      · skip
        refine mw_aload_n dX6_lay_21 rfl ?_
        refine mw_iload_n dX6_lay_22 rfl ?_
        refine mw_cVI (g := fX6_isAttic) dX6_lay_23 ml_X6_63 mfX6_isAttic (ok_X6_isAttic hX hn) (by assumption) rfl rfl (Nat.le_of_ble_eq_true rfl) ⟨by decide, by decide⟩ ⟨by decide, by decide⟩ ?_
        refine mw_if_eqB (tgt := 41) dX6_lay_26 (by decide) (fun h26 => ?_) (fun h26 => ?_)
        · skip
          refine mw_ldc dX6_lay_41 cn_X6_58 ?_
          exact mw_iret dX6_lay_43 rfl (by decide) (by decide) (by rw [cLay, if_neg (by grind)]; exact ⟨rfl, rfl, rfl⟩)
        · skip
          refine mw_iload_n dX6_lay_29 rfl ?_
          refine mw_iconst (v := 2) dX6_lay_30 (by decide) ?_
          refine mw_icmp_ne (tgt := 44) dX6_lay_31 (by decide) (fun h31 => ?_) (fun h31 => ?_)
          · skip
            refine mw_iload_n dX6_lay_44 rfl ?_
            refine mw_iconst (v := 2) dX6_lay_45 (by decide) ?_
            refine mw_icmp_ne (tgt := 65) dX6_lay_46 (by decide) (fun h46 => ?_) (fun h46 => ?_)
            · skip
              obtain ⟨i, hi, hv⟩ := inB 4 (by decide) h4
              have gg := s65 i (by omega) hv h13 (by grind) (by grind) (by grind)
              rw [← hv] at gg
              exact MW.sub (by simp [lsub]) gg
            · skip
              have g38 : 0 ≤ k ∧ k ≤ 3 := by grind
              obtain ⟨b, hb, hk⟩ := inB 3 (by decide) g38
              have ek : k.toNatClampNeg = b := by rw [hk, nI_clamp (by omega)]
              have hsh := (a_sheets b (by omega)).2
              refine mw_aload_n dX6_lay_49 rfl ?_
              refine mw_getr dX6_lay_50 fl_X6_31 rfl (by assumption) (by assumption) ?_
              refine mw_iload_n dX6_lay_53 rfl ?_
              refine mw_aldK (k := b) dX6_lay_54 (by assumption) (by decide) (hk) (by omega) (by decide) ((a_sheets b (by omega)).1) ?_
              refine mw_geti dX6_lay_55 fl_X6_190 rfl (hsh.1) ?_
              rw [← ek]
              refine mw_iconst (v := (-1)) dX6_lay_58 (by decide) ?_
              refine mw_icmp_ne (tgt := 65) dX6_lay_59 (by decide) (fun h59 => ?_) (fun h59 => ?_)
              · skip
                obtain ⟨i, hi, hv⟩ := inB 4 (by decide) h4
                have gg := s65 i (by omega) hv h13 (by grind) (by grind) (by grind)
                rw [← hv] at gg
                exact MW.sub (by simp [lsub]) gg
              · skip
                refine mw_ldc dX6_lay_62 cn_X6_193 ?_
                exact mw_iret dX6_lay_64 rfl (by decide) (by decide) (by rw [cLay, if_pos (by grind), if_pos ⟨h46, h59⟩]; exact ⟨rfl, rfl, rfl⟩)
          · skip
            refine mw_iload_n dX6_lay_34 rfl ?_
            refine mw_cSI (g := fX6_isSheet) dX6_lay_35 ml_X6_187 mfX6_isSheet (ok_X6_isSheet) rfl rfl (Nat.le_of_ble_eq_true rfl) ⟨by decide, by decide⟩ ⟨by decide, by decide⟩ ?_
            refine mw_if_neB (tgt := 44) dX6_lay_38 (by decide) (fun h38 => ?_) (fun h38 => ?_)
            · skip
              refine mw_iload_n dX6_lay_44 rfl ?_
              refine mw_iconst (v := 2) dX6_lay_45 (by decide) ?_
              refine mw_icmp_ne (tgt := 65) dX6_lay_46 (by decide) (fun h46 => ?_) (fun h46 => ?_)
              · skip
                obtain ⟨i, hi, hv⟩ := inB 4 (by decide) h4
                have gg := s65 i (by omega) hv h13 (by grind) (by grind) (by grind)
                rw [← hv] at gg
                exact MW.sub (by simp [lsub]) gg
              · skip
                have g38 : 0 ≤ k ∧ k ≤ 3 := by grind
                obtain ⟨b, hb, hk⟩ := inB 3 (by decide) g38
                have ek : k.toNatClampNeg = b := by rw [hk, nI_clamp (by omega)]
                have hsh := (a_sheets b (by omega)).2
                refine mw_aload_n dX6_lay_49 rfl ?_
                refine mw_getr dX6_lay_50 fl_X6_31 rfl (by assumption) (by assumption) ?_
                refine mw_iload_n dX6_lay_53 rfl ?_
                refine mw_aldK (k := b) dX6_lay_54 (by assumption) (by decide) (hk) (by omega) (by decide) ((a_sheets b (by omega)).1) ?_
                refine mw_geti dX6_lay_55 fl_X6_190 rfl (hsh.1) ?_
                rw [← ek]
                refine mw_iconst (v := (-1)) dX6_lay_58 (by decide) ?_
                refine mw_icmp_ne (tgt := 65) dX6_lay_59 (by decide) (fun h59 => ?_) (fun h59 => ?_)
                · skip
                  obtain ⟨i, hi, hv⟩ := inB 4 (by decide) h4
                  have gg := s65 i (by omega) hv h13 (by grind) (by grind) (by grind)
                  rw [← hv] at gg
                  exact MW.sub (by simp [lsub]) gg
                · skip
                  refine mw_ldc dX6_lay_62 cn_X6_193 ?_
                  exact mw_iret dX6_lay_64 rfl (by decide) (by decide) (by rw [cLay, if_pos (by grind), if_pos ⟨h46, h59⟩]; exact ⟨rfl, rfl, rfl⟩)
            · skip
              refine mw_ldc dX6_lay_41 cn_X6_58 ?_
              exact mw_iret dX6_lay_43 rfl (by decide) (by decide) (by rw [cLay, if_neg (by grind)]; exact ⟨rfl, rfl, rfl⟩)
def cAsk (mi : Mem) (x : Nat) (v k : Int32) : Int32 := if (0 ≤ v ∧ v ≤ 4) ∧ (0 ≤ k ∧ k ≤ 5) then (if mi (x + 67 + 4 * v.toNatClampNeg) 0 = 0 then NOTHINGi else if mi (x + 67 + 4 * v.toNatClampNeg) 0 = 1 ∧ isoB (mi (x + 67 + 4 * v.toNatClampNeg + 1) 0) k = true then sWide (mi (x + 1) 10) (mi (x + 67 + 4 * v.toNatClampNeg + 1) 0) (mi (x + 67 + 4 * v.toNatClampNeg + 1) 2) else KINDi) else BADi
/-- an attic in a slot is of a kind -/
def SlK (mi : Mem) (x : Nat) : Prop := ∀ i, i < 5 → mi (x + 67 + 4 * i) 0 = 1 → ∃ c, c < 6 ∧ mi (x + 67 + 4 * i + 1) 0 = nI c
theorem dX6_ask_0 : decode fX6_ask.2.1 0 = .ok (.iload_n 1, 1) := by decide +kernel
theorem dX6_ask_1 : decode fX6_ask.2.1 1 = .ok (.invokestatic 274, 3) := by decide +kernel
theorem dX6_ask_4 : decode fX6_ask.2.1 4 = .ok (.ifCond .eq 12, 3) := by decide +kernel
theorem dX6_ask_7 : decode fX6_ask.2.1 7 = .ok (.iload_n 2, 1) := by decide +kernel
theorem dX6_ask_8 : decode fX6_ask.2.1 8 = .ok (.iconst 0, 1) := by decide +kernel
theorem dX6_ask_9 : decode fX6_ask.2.1 9 = .ok (.iconst 5, 1) := by decide +kernel
theorem dX6_ask_10 : decode fX6_ask.2.1 10 = .ok (.invokestatic 50, 3) := by decide +kernel
theorem dX6_ask_13 : decode fX6_ask.2.1 13 = .ok (.ifCond .ne 6, 3) := by decide +kernel
theorem dX6_ask_16 : decode fX6_ask.2.1 16 = .ok (.ldc 58, 2) := by decide +kernel
theorem dX6_ask_18 : decode fX6_ask.2.1 18 = .ok (.ireturn, 1) := by decide +kernel
theorem dX6_ask_19 : decode fX6_ask.2.1 19 = .ok (.aload_n 0, 1) := by decide +kernel
theorem dX6_ask_20 : decode fX6_ask.2.1 20 = .ok (.getfield 37, 3) := by decide +kernel
theorem dX6_ask_23 : decode fX6_ask.2.1 23 = .ok (.iload_n 1, 1) := by decide +kernel
theorem dX6_ask_24 : decode fX6_ask.2.1 24 = .ok (.aaload, 1) := by decide +kernel
theorem dX6_ask_25 : decode fX6_ask.2.1 25 = .ok (.astore_n 3, 1) := by decide +kernel
theorem dX6_ask_26 : decode fX6_ask.2.1 26 = .ok (.aload_n 3, 1) := by decide +kernel
theorem dX6_ask_27 : decode fX6_ask.2.1 27 = .ok (.getfield 277, 3) := by decide +kernel
theorem dX6_ask_30 : decode fX6_ask.2.1 30 = .ok (.ifCond .ne 6, 3) := by decide +kernel
theorem dX6_ask_33 : decode fX6_ask.2.1 33 = .ok (.ldc 193, 2) := by decide +kernel
theorem dX6_ask_35 : decode fX6_ask.2.1 35 = .ok (.ireturn, 1) := by decide +kernel
theorem dX6_ask_36 : decode fX6_ask.2.1 36 = .ok (.aload_n 3, 1) := by decide +kernel
theorem dX6_ask_37 : decode fX6_ask.2.1 37 = .ok (.getfield 277, 3) := by decide +kernel
theorem dX6_ask_40 : decode fX6_ask.2.1 40 = .ok (.iconst 1, 1) := by decide +kernel
theorem dX6_ask_41 : decode fX6_ask.2.1 41 = .ok (.if_icmp .ne 28, 3) := by decide +kernel
theorem dX6_ask_44 : decode fX6_ask.2.1 44 = .ok (.aload_n 3, 1) := by decide +kernel
theorem dX6_ask_45 : decode fX6_ask.2.1 45 = .ok (.getfield 280, 3) := by decide +kernel
theorem dX6_ask_48 : decode fX6_ask.2.1 48 = .ok (.iload_n 2, 1) := by decide +kernel
theorem dX6_ask_49 : decode fX6_ask.2.1 49 = .ok (.invokevirtual 98, 3) := by decide +kernel
theorem dX6_ask_52 : decode fX6_ask.2.1 52 = .ok (.ifCond .eq 17, 3) := by decide +kernel
theorem dX6_ask_55 : decode fX6_ask.2.1 55 = .ok (.aload_n 0, 1) := by decide +kernel
theorem dX6_ask_56 : decode fX6_ask.2.1 56 = .ok (.getfield 10, 3) := by decide +kernel
theorem dX6_ask_59 : decode fX6_ask.2.1 59 = .ok (.aload_n 3, 1) := by decide +kernel
theorem dX6_ask_60 : decode fX6_ask.2.1 60 = .ok (.getfield 280, 3) := by decide +kernel
theorem dX6_ask_63 : decode fX6_ask.2.1 63 = .ok (.invokevirtual 88, 3) := by decide +kernel
theorem dX6_ask_66 : decode fX6_ask.2.1 66 = .ok (.goto 5, 3) := by decide +kernel
theorem dX6_ask_69 : decode fX6_ask.2.1 69 = .ok (.ldc 101, 2) := by decide +kernel
theorem dX6_ask_71 : decode fX6_ask.2.1 71 = .ok (.ireturn, 1) := by decide +kernel
set_option maxRecDepth 100000 in
set_option maxHeartbeats 4000000 in
theorem ok_X6_ask {X : Xb} {S : Sg} {mi : Mem} {x : Nat} {v k : Int32} (hX : AsA S x) (hK : SlK mi x) : Ok 2 0 0 fX6_ask X [rf X x, .int v, .int k] S mi (PE S (cAsk mi x v k, mi)) := by
  refine Ok.go [some (rf X x), some (.int v), some (.int k), none] (by decide) (by simp [Value.category]) (Nat.le_of_ble_eq_true rfl) rfl ?_
  obtain ⟨k_x, ⟨r_x_now, t_now⟩, ⟨r_x_thought, t_thought⟩, ⟨r_x_image, t_image⟩, ⟨r_x_tape, t_tape⟩, ⟨r_x_sheets, k_x_sheets⟩, ⟨r_x_slots, k_x_slots⟩, ⟨r_x_waiting, k_x_waiting⟩, ⟨r_x_diff, k_x_diff⟩, a_sheets, a_slots⟩ := id hX
  refine mw_iload_n dX6_ask_0 rfl ?_
  refine mw_cSI (g := fX6_isSlot) dX6_ask_1 ml_X6_274 mfX6_isSlot (ok_X6_isSlot) rfl rfl (Nat.le_of_ble_eq_true rfl) ⟨by decide, by decide⟩ ⟨by decide, by decide⟩ ?_
  refine mw_if_eqB (tgt := 16) dX6_ask_4 (by decide) (fun h4 => ?_) (fun h4 => ?_)
  · skip
    refine mw_ldc dX6_ask_16 cn_X6_58 ?_
    exact mw_iret dX6_ask_18 rfl (by decide) (by decide) (by rw [cAsk, if_neg (by grind)]; exact ⟨rfl, rfl, rfl⟩)
  · skip
    refine mw_iload_n dX6_ask_7 rfl ?_
    refine mw_iconst (v := 0) dX6_ask_8 (by decide) ?_
    refine mw_iconst (v := 5) dX6_ask_9 (by decide) ?_
    refine mw_cSI (g := fX6_within) dX6_ask_10 ml_X6_50 mfX6_within (ok_X6_within) rfl rfl (Nat.le_of_ble_eq_true rfl) ⟨by decide, by decide⟩ ⟨by decide, by decide⟩ ?_
    refine mw_if_neB (tgt := 19) dX6_ask_13 (by decide) (fun h13 => ?_) (fun h13 => ?_)
    · skip
      obtain ⟨i, hi, rfl⟩ := inB 4 (by decide) h4
      have ev : (nI i).toNatClampNeg = i := nI_clamp (by omega)
      have hs := (a_slots i (by omega)).2
      have k_sl := hs.1
      have r_sl := hs.2.1.1
      have k_at := hs.2.1.2
      refine mw_aload_n dX6_ask_19 rfl ?_
      refine mw_getr dX6_ask_20 fl_X6_37 rfl (by assumption) (by assumption) ?_
      refine mw_iload_n dX6_ask_23 rfl ?_
      refine mw_aldK (k := i) dX6_ask_24 (by assumption) (by decide) (rfl) (by omega) (by decide) ((a_slots i (by omega)).1) ?_
      refine mw_astN 3 dX6_ask_25 rfl (by decide) ?_
      refine mw_aload_n dX6_ask_26 rfl ?_
      refine mw_geti dX6_ask_27 fl_X6_277 rfl (k_sl) ?_
      refine mw_if_ne (tgt := 36) dX6_ask_30 (by decide) (fun h30 => ?_) (fun h30 => ?_)
      · skip
        refine mw_aload_n dX6_ask_36 rfl ?_
        refine mw_geti dX6_ask_37 fl_X6_277 rfl (k_sl) ?_
        refine mw_iconst (v := 1) dX6_ask_40 (by decide) ?_
        refine mw_icmp_ne (tgt := 69) dX6_ask_41 (by decide) (fun h41 => ?_) (fun h41 => ?_)
        · skip
          refine mw_ldc dX6_ask_69 cn_X6_101 ?_
          exact mw_iret dX6_ask_71 rfl (by decide) (by decide) (by first | (rw [cAsk, if_pos ⟨h4, h13⟩, ev, if_neg h30, if_pos ⟨h41, by rw [hc]; exact h52⟩]; exact ⟨rfl, rfl, rfl⟩) | (rw [cAsk, if_pos ⟨h4, h13⟩, ev, if_neg h30, if_neg (fun g => h52 (by rw [← hc]; exact g.2))]; exact ⟨rfl, rfl, rfl⟩) | (rw [cAsk, if_pos ⟨h4, h13⟩, ev, if_neg h30, if_neg (fun g => h41 g.1)]; exact ⟨rfl, rfl, rfl⟩) | fail "leaf")
        · skip
          obtain ⟨c, hc6, hc⟩ := hK i (by omega) h41
          refine mw_aload_n dX6_ask_44 rfl ?_
          refine mw_getr dX6_ask_45 fl_X6_280 rfl (k_sl) (r_sl) ?_
          refine mw_iload_n dX6_ask_48 rfl ?_
          refine mw_cVI (g := fX0_isOf) dX6_ask_49 ml_X6_98 mfX0_isOf (ok_X0_isOf (R := isoB (nI c) k) k_at hc hc6 (isoB_iff hc6)) (k_at) rfl rfl (Nat.le_of_ble_eq_true rfl) ⟨by decide, by decide⟩ ⟨by decide, by decide⟩ ?_
          refine mw_if_eqB (tgt := 69) dX6_ask_52 (by decide) (fun h52 => ?_) (fun h52 => ?_)
          · skip
            refine mw_ldc dX6_ask_69 cn_X6_101 ?_
            exact mw_iret dX6_ask_71 rfl (by decide) (by decide) (by first | (rw [cAsk, if_pos ⟨h4, h13⟩, ev, if_neg h30, if_pos ⟨h41, by rw [hc]; exact h52⟩]; exact ⟨rfl, rfl, rfl⟩) | (rw [cAsk, if_pos ⟨h4, h13⟩, ev, if_neg h30, if_neg (fun g => h52 (by rw [← hc]; exact g.2))]; exact ⟨rfl, rfl, rfl⟩) | (rw [cAsk, if_pos ⟨h4, h13⟩, ev, if_neg h30, if_neg (fun g => h41 g.1)]; exact ⟨rfl, rfl, rfl⟩) | fail "leaf")
          · skip
            refine mw_aload_n dX6_ask_55 rfl ?_
            refine mw_getr dX6_ask_56 fl_X6_10 rfl (by assumption) (by assumption) ?_
            refine mw_aload_n dX6_ask_59 rfl ?_
            refine mw_getr dX6_ask_60 fl_X6_280 rfl (k_sl) (r_sl) ?_
            refine mw_cVI (g := fX5_wideOf) dX6_ask_63 ml_X6_88 mfX5_wideOf (ok_X5_wideOf t_now k_at) (t_now.1) rfl rfl (Nat.le_of_ble_eq_true rfl) ⟨by decide, by decide⟩ ⟨by decide, by decide⟩ ?_
            refine mw_goto (tgt := 71) dX6_ask_66 (by decide) ?_
            exact mw_iret dX6_ask_71 rfl (by decide) (by decide) (by first | (rw [cAsk, if_pos ⟨h4, h13⟩, ev, if_neg h30, if_pos ⟨h41, by rw [hc]; exact h52⟩]; exact ⟨rfl, rfl, rfl⟩) | (rw [cAsk, if_pos ⟨h4, h13⟩, ev, if_neg h30, if_neg (fun g => h52 (by rw [← hc]; exact g.2))]; exact ⟨rfl, rfl, rfl⟩) | (rw [cAsk, if_pos ⟨h4, h13⟩, ev, if_neg h30, if_neg (fun g => h41 g.1)]; exact ⟨rfl, rfl, rfl⟩) | fail "leaf")
      · skip
        refine mw_ldc dX6_ask_33 cn_X6_193 ?_
        exact mw_iret dX6_ask_35 rfl (by decide) (by decide) (by rw [cAsk, if_pos ⟨h4, h13⟩, ev, if_pos h30]; exact ⟨rfl, rfl, rfl⟩)
    · skip
      refine mw_ldc dX6_ask_16 cn_X6_58 ?_
      exact mw_iret dX6_ask_18 rfl (by decide) (by decide) (by rw [cAsk, if_neg (by grind)]; exact ⟨rfl, rfl, rfl⟩)
/-- a sheet in a slot has up to 24 places -/
def SlZ (mi : Mem) (x : Nat) : Prop := ∀ i, i < 5 → ∃ z, z ≤ 24 ∧ mi (x + 67 + 4 * i + 2) 2 = nI z
def cItem (mi : Mem) (x : Nat) (v p : Int32) : Int32 := if 0 ≤ v ∧ v ≤ 4 then (if mi (x + 67 + 4 * v.toNatClampNeg) 0 = 0 then NOTHINGi else if ¬ mi (x + 67 + 4 * v.toNatClampNeg) 0 = 2 then KINDi else if ¬ (0 ≤ p ∧ p ≤ mi (x + 67 + 4 * v.toNatClampNeg + 2) 2 - 1) then INDEXi else if mi (x + 67 + 4 * v.toNatClampNeg + 2 + 1) p.toNatClampNeg = NONEi then KINDi else mi (x + 67 + 4 * v.toNatClampNeg + 2 + 1) p.toNatClampNeg) else BADi
theorem dX6_item_0 : decode fX6_item.2.1 0 = .ok (.iload_n 1, 1) := by decide +kernel
theorem dX6_item_1 : decode fX6_item.2.1 1 = .ok (.invokestatic 274, 3) := by decide +kernel
theorem dX6_item_4 : decode fX6_item.2.1 4 = .ok (.ifCond .ne 6, 3) := by decide +kernel
theorem dX6_item_7 : decode fX6_item.2.1 7 = .ok (.ldc 58, 2) := by decide +kernel
theorem dX6_item_9 : decode fX6_item.2.1 9 = .ok (.ireturn, 1) := by decide +kernel
theorem dX6_item_10 : decode fX6_item.2.1 10 = .ok (.aload_n 0, 1) := by decide +kernel
theorem dX6_item_11 : decode fX6_item.2.1 11 = .ok (.getfield 37, 3) := by decide +kernel
theorem dX6_item_14 : decode fX6_item.2.1 14 = .ok (.iload_n 1, 1) := by decide +kernel
theorem dX6_item_15 : decode fX6_item.2.1 15 = .ok (.aaload, 1) := by decide +kernel
theorem dX6_item_16 : decode fX6_item.2.1 16 = .ok (.astore_n 3, 1) := by decide +kernel
theorem dX6_item_17 : decode fX6_item.2.1 17 = .ok (.aload_n 3, 1) := by decide +kernel
theorem dX6_item_18 : decode fX6_item.2.1 18 = .ok (.getfield 277, 3) := by decide +kernel
theorem dX6_item_21 : decode fX6_item.2.1 21 = .ok (.ifCond .ne 6, 3) := by decide +kernel
theorem dX6_item_24 : decode fX6_item.2.1 24 = .ok (.ldc 193, 2) := by decide +kernel
theorem dX6_item_26 : decode fX6_item.2.1 26 = .ok (.ireturn, 1) := by decide +kernel
theorem dX6_item_27 : decode fX6_item.2.1 27 = .ok (.aload_n 3, 1) := by decide +kernel
theorem dX6_item_28 : decode fX6_item.2.1 28 = .ok (.getfield 277, 3) := by decide +kernel
theorem dX6_item_31 : decode fX6_item.2.1 31 = .ok (.iconst 2, 1) := by decide +kernel
theorem dX6_item_32 : decode fX6_item.2.1 32 = .ok (.if_icmp .eq 6, 3) := by decide +kernel
theorem dX6_item_35 : decode fX6_item.2.1 35 = .ok (.ldc 101, 2) := by decide +kernel
theorem dX6_item_37 : decode fX6_item.2.1 37 = .ok (.ireturn, 1) := by decide +kernel
theorem dX6_item_38 : decode fX6_item.2.1 38 = .ok (.aload_n 3, 1) := by decide +kernel
theorem dX6_item_39 : decode fX6_item.2.1 39 = .ok (.getfield 287, 3) := by decide +kernel
theorem dX6_item_42 : decode fX6_item.2.1 42 = .ok (.iload_n 2, 1) := by decide +kernel
theorem dX6_item_43 : decode fX6_item.2.1 43 = .ok (.invokevirtual 246, 3) := by decide +kernel
theorem dX6_item_46 : decode fX6_item.2.1 46 = .ok (.ifCond .ne 6, 3) := by decide +kernel
theorem dX6_item_49 : decode fX6_item.2.1 49 = .ok (.ldc 249, 2) := by decide +kernel
theorem dX6_item_51 : decode fX6_item.2.1 51 = .ok (.ireturn, 1) := by decide +kernel
theorem dX6_item_52 : decode fX6_item.2.1 52 = .ok (.aload_n 3, 1) := by decide +kernel
theorem dX6_item_53 : decode fX6_item.2.1 53 = .ok (.getfield 287, 3) := by decide +kernel
theorem dX6_item_56 : decode fX6_item.2.1 56 = .ok (.iload_n 2, 1) := by decide +kernel
theorem dX6_item_57 : decode fX6_item.2.1 57 = .ok (.invokevirtual 255, 3) := by decide +kernel
theorem dX6_item_60 : decode fX6_item.2.1 60 = .ok (.ifCond .eq 15, 3) := by decide +kernel
theorem dX6_item_63 : decode fX6_item.2.1 63 = .ok (.aload_n 3, 1) := by decide +kernel
theorem dX6_item_64 : decode fX6_item.2.1 64 = .ok (.getfield 287, 3) := by decide +kernel
theorem dX6_item_67 : decode fX6_item.2.1 67 = .ok (.getfield 252, 3) := by decide +kernel
theorem dX6_item_70 : decode fX6_item.2.1 70 = .ok (.iload_n 2, 1) := by decide +kernel
theorem dX6_item_71 : decode fX6_item.2.1 71 = .ok (.iaload, 1) := by decide +kernel
theorem dX6_item_72 : decode fX6_item.2.1 72 = .ok (.goto 5, 3) := by decide +kernel
theorem dX6_item_75 : decode fX6_item.2.1 75 = .ok (.ldc 101, 2) := by decide +kernel
theorem dX6_item_77 : decode fX6_item.2.1 77 = .ok (.ireturn, 1) := by decide +kernel
set_option maxRecDepth 100000 in
set_option maxHeartbeats 4000000 in
theorem ok_X6_item {X : Xb} {S : Sg} {mi : Mem} {x : Nat} {v p : Int32} (hX : AsA S x) (hZ : SlZ mi x) : Ok 3 0 0 fX6_item X [rf X x, .int v, .int p] S mi (PE S (cItem mi x v p, mi)) := by
  refine Ok.go [some (rf X x), some (.int v), some (.int p), none] (by decide) (by simp [Value.category]) (Nat.le_of_ble_eq_true rfl) rfl ?_
  obtain ⟨k_x, ⟨r_x_now, t_now⟩, ⟨r_x_thought, t_thought⟩, ⟨r_x_image, t_image⟩, ⟨r_x_tape, t_tape⟩, ⟨r_x_sheets, k_x_sheets⟩, ⟨r_x_slots, k_x_slots⟩, ⟨r_x_waiting, k_x_waiting⟩, ⟨r_x_diff, k_x_diff⟩, a_sheets, a_slots⟩ := id hX
  refine mw_iload_n dX6_item_0 rfl ?_
  refine mw_cSI (g := fX6_isSlot) dX6_item_1 ml_X6_274 mfX6_isSlot (ok_X6_isSlot) rfl rfl (Nat.le_of_ble_eq_true rfl) ⟨by decide, by decide⟩ ⟨by decide, by decide⟩ ?_
  refine mw_if_neB (tgt := 10) dX6_item_4 (by decide) (fun h4 => ?_) (fun h4 => ?_)
  · skip
    obtain ⟨i, hi, rfl⟩ := inB 4 (by decide) h4
    have ev : (nI i).toNatClampNeg = i := nI_clamp (by omega)
    have hs := (a_slots i (by omega)).2
    have k_sl := hs.1
    have r_sl := hs.2.2.1
    have hsh := hs.2.2.2
    obtain ⟨z, z24, hz⟩ := hZ i (by omega)
    refine mw_aload_n dX6_item_10 rfl ?_
    refine mw_getr dX6_item_11 fl_X6_37 rfl (by assumption) (by assumption) ?_
    refine mw_iload_n dX6_item_14 rfl ?_
    refine mw_aldK (k := i) dX6_item_15 (by assumption) (by decide) (rfl) (by omega) (by decide) ((a_slots i (by omega)).1) ?_
    refine mw_astN 3 dX6_item_16 rfl (by decide) ?_
    refine mw_aload_n dX6_item_17 rfl ?_
    refine mw_geti dX6_item_18 fl_X6_277 rfl (k_sl) ?_
    refine mw_if_ne (tgt := 27) dX6_item_21 (by decide) (fun h21 => ?_) (fun h21 => ?_)
    · skip
      refine mw_aload_n dX6_item_27 rfl ?_
      refine mw_geti dX6_item_28 fl_X6_277 rfl (k_sl) ?_
      refine mw_iconst (v := 2) dX6_item_31 (by decide) ?_
      refine mw_icmp_eq (tgt := 38) dX6_item_32 (by decide) (fun h32 => ?_) (fun h32 => ?_)
      · skip
        refine mw_aload_n dX6_item_38 rfl ?_
        refine mw_getr dX6_item_39 fl_X6_287 rfl (k_sl) (r_sl) ?_
        refine mw_iload_n dX6_item_42 rfl ?_
        refine mw_cVI (g := fX1_hasPlace) dX6_item_43 ml_X6_246 mfX1_hasPlace (ok_X1_hasPlace hsh.1) (hsh.1) rfl rfl (Nat.le_of_ble_eq_true rfl) ⟨by decide, by decide⟩ ⟨by decide, by decide⟩ ?_
        rw [hz]
        refine mw_if_neB (tgt := 52) dX6_item_46 (by decide) (fun h46 => ?_) (fun h46 => ?_)
        · skip
          obtain ⟨a, ha, rfl⟩ := inN h46 (by omega)
          have ep : (nI a).toNatClampNeg = a := nI_clamp (by omega)
          refine mw_aload_n dX6_item_52 rfl ?_
          refine mw_getr dX6_item_53 fl_X6_287 rfl (k_sl) (r_sl) ?_
          refine mw_iload_n dX6_item_56 rfl ?_
          refine mw_cVI (g := fX1_hasNumber) dX6_item_57 ml_X6_255 mfX1_hasNumber (ok_X1_hasNumber hsh hz z24) (hsh.1) rfl rfl (Nat.le_of_ble_eq_true rfl) ⟨by decide, by decide⟩ ⟨by decide, by decide⟩ ?_
          refine mw_if_eqB (tgt := 75) dX6_item_60 (by decide) (fun h60 => ?_) (fun h60 => ?_)
          · skip
            refine mw_ldc dX6_item_75 cn_X6_101 ?_
            exact mw_iret dX6_item_77 rfl (by decide) (by decide) (by first | (rw [cItem, if_pos h4, ev, if_neg h21, if_neg (fun g => g h32), hz, if_neg (fun g => g h46), if_neg h60.2, ep]; exact ⟨rfl, rfl, rfl⟩) | (rw [cItem, if_pos h4, ev, if_neg h21, if_neg (fun g => g h32), hz, if_neg (fun g => g h46), if_pos (Classical.not_not.mp (fun g => h60 ⟨h46, g⟩))]; exact ⟨rfl, rfl, rfl⟩) | fail "leaf")
          · skip
            refine mw_aload_n dX6_item_63 rfl ?_
            refine mw_getr dX6_item_64 fl_X6_287 rfl (k_sl) (r_sl) ?_
            refine mw_getr dX6_item_67 fl_X6_252 rfl (hsh.1) (hsh.2.1) ?_
            refine mw_iload_n dX6_item_70 rfl ?_
            refine mw_ialdK (k := a) dX6_item_71 (hsh.2.2) (rfl) (by omega) (by decide) ?_
            refine mw_goto (tgt := 77) dX6_item_72 (by decide) ?_
            exact mw_iret dX6_item_77 rfl (by decide) (by decide) (by first | (rw [cItem, if_pos h4, ev, if_neg h21, if_neg (fun g => g h32), hz, if_neg (fun g => g h46), if_neg h60.2, ep]; exact ⟨rfl, rfl, rfl⟩) | (rw [cItem, if_pos h4, ev, if_neg h21, if_neg (fun g => g h32), hz, if_neg (fun g => g h46), if_pos (Classical.not_not.mp (fun g => h60 ⟨h46, g⟩))]; exact ⟨rfl, rfl, rfl⟩) | fail "leaf")
        · skip
          refine mw_ldc dX6_item_49 cn_X6_249 ?_
          exact mw_iret dX6_item_51 rfl (by decide) (by decide) (by rw [cItem, if_pos h4, ev, if_neg h21, if_neg (fun g => g h32), hz, if_pos h46]; exact ⟨rfl, rfl, rfl⟩)
      · skip
        refine mw_ldc dX6_item_35 cn_X6_101 ?_
        exact mw_iret dX6_item_37 rfl (by decide) (by decide) (by rw [cItem, if_pos h4, ev, if_neg h21, if_pos h32]; exact ⟨rfl, rfl, rfl⟩)
    · skip
      refine mw_ldc dX6_item_24 cn_X6_193 ?_
      exact mw_iret dX6_item_26 rfl (by decide) (by decide) (by rw [cItem, if_pos h4, ev, if_pos h21]; exact ⟨rfl, rfl, rfl⟩)
  · skip
    refine mw_ldc dX6_item_7 cn_X6_58 ?_
    exact mw_iret dX6_item_9 rfl (by decide) (by decide) (by rw [cItem, if_neg h4]; exact ⟨rfl, rfl, rfl⟩)
def cRest (mi : Mem) (x : Nat) (v n : Int32) : Int32 := if 0 ≤ v ∧ v ≤ 4 then (if mi (x + 67 + 4 * v.toNatClampNeg) 0 = 0 then NOTHINGi else if ¬ mi (x + 67 + 4 * v.toNatClampNeg) 0 = 3 then KINDi else if n = 0 then NOi else jr (mi (x + 67 + 4 * v.toNatClampNeg) 3) n) else BADi
theorem dX6_rest_0 : decode fX6_rest.2.1 0 = .ok (.iload_n 1, 1) := by decide +kernel
theorem dX6_rest_1 : decode fX6_rest.2.1 1 = .ok (.invokestatic 274, 3) := by decide +kernel
theorem dX6_rest_4 : decode fX6_rest.2.1 4 = .ok (.ifCond .ne 6, 3) := by decide +kernel
theorem dX6_rest_7 : decode fX6_rest.2.1 7 = .ok (.ldc 58, 2) := by decide +kernel
theorem dX6_rest_9 : decode fX6_rest.2.1 9 = .ok (.ireturn, 1) := by decide +kernel
theorem dX6_rest_10 : decode fX6_rest.2.1 10 = .ok (.aload_n 0, 1) := by decide +kernel
theorem dX6_rest_11 : decode fX6_rest.2.1 11 = .ok (.getfield 37, 3) := by decide +kernel
theorem dX6_rest_14 : decode fX6_rest.2.1 14 = .ok (.iload_n 1, 1) := by decide +kernel
theorem dX6_rest_15 : decode fX6_rest.2.1 15 = .ok (.aaload, 1) := by decide +kernel
theorem dX6_rest_16 : decode fX6_rest.2.1 16 = .ok (.astore_n 3, 1) := by decide +kernel
theorem dX6_rest_17 : decode fX6_rest.2.1 17 = .ok (.aload_n 3, 1) := by decide +kernel
theorem dX6_rest_18 : decode fX6_rest.2.1 18 = .ok (.getfield 277, 3) := by decide +kernel
theorem dX6_rest_21 : decode fX6_rest.2.1 21 = .ok (.ifCond .ne 6, 3) := by decide +kernel
theorem dX6_rest_24 : decode fX6_rest.2.1 24 = .ok (.ldc 193, 2) := by decide +kernel
theorem dX6_rest_26 : decode fX6_rest.2.1 26 = .ok (.ireturn, 1) := by decide +kernel
theorem dX6_rest_27 : decode fX6_rest.2.1 27 = .ok (.aload_n 3, 1) := by decide +kernel
theorem dX6_rest_28 : decode fX6_rest.2.1 28 = .ok (.getfield 277, 3) := by decide +kernel
theorem dX6_rest_31 : decode fX6_rest.2.1 31 = .ok (.iconst 3, 1) := by decide +kernel
theorem dX6_rest_32 : decode fX6_rest.2.1 32 = .ok (.if_icmp .eq 6, 3) := by decide +kernel
theorem dX6_rest_35 : decode fX6_rest.2.1 35 = .ok (.ldc 101, 2) := by decide +kernel
theorem dX6_rest_37 : decode fX6_rest.2.1 37 = .ok (.ireturn, 1) := by decide +kernel
theorem dX6_rest_38 : decode fX6_rest.2.1 38 = .ok (.iload_n 2, 1) := by decide +kernel
theorem dX6_rest_39 : decode fX6_rest.2.1 39 = .ok (.ifCond .ne 9, 3) := by decide +kernel
theorem dX6_rest_42 : decode fX6_rest.2.1 42 = .ok (.ldc_w 296, 3) := by decide +kernel
theorem dX6_rest_45 : decode fX6_rest.2.1 45 = .ok (.goto 9, 3) := by decide +kernel
theorem dX6_rest_48 : decode fX6_rest.2.1 48 = .ok (.aload_n 3, 1) := by decide +kernel
theorem dX6_rest_49 : decode fX6_rest.2.1 49 = .ok (.getfield 293, 3) := by decide +kernel
theorem dX6_rest_52 : decode fX6_rest.2.1 52 = .ok (.iload_n 2, 1) := by decide +kernel
theorem dX6_rest_53 : decode fX6_rest.2.1 53 = .ok (.irem, 1) := by decide +kernel
theorem dX6_rest_54 : decode fX6_rest.2.1 54 = .ok (.ireturn, 1) := by decide +kernel
set_option maxRecDepth 100000 in
set_option maxHeartbeats 4000000 in
theorem ok_X6_rest {X : Xb} {S : Sg} {mi : Mem} {x : Nat} {v n : Int32} (hX : AsA S x) : Ok 2 0 0 fX6_rest X [rf X x, .int v, .int n] S mi (PE S (cRest mi x v n, mi)) := by
  refine Ok.go [some (rf X x), some (.int v), some (.int n), none] (by decide) (by simp [Value.category]) (Nat.le_of_ble_eq_true rfl) rfl ?_
  obtain ⟨k_x, ⟨r_x_now, t_now⟩, ⟨r_x_thought, t_thought⟩, ⟨r_x_image, t_image⟩, ⟨r_x_tape, t_tape⟩, ⟨r_x_sheets, k_x_sheets⟩, ⟨r_x_slots, k_x_slots⟩, ⟨r_x_waiting, k_x_waiting⟩, ⟨r_x_diff, k_x_diff⟩, a_sheets, a_slots⟩ := id hX
  refine mw_iload_n dX6_rest_0 rfl ?_
  refine mw_cSI (g := fX6_isSlot) dX6_rest_1 ml_X6_274 mfX6_isSlot (ok_X6_isSlot) rfl rfl (Nat.le_of_ble_eq_true rfl) ⟨by decide, by decide⟩ ⟨by decide, by decide⟩ ?_
  refine mw_if_neB (tgt := 10) dX6_rest_4 (by decide) (fun h4 => ?_) (fun h4 => ?_)
  · skip
    obtain ⟨i, hi, rfl⟩ := inB 4 (by decide) h4
    have ev : (nI i).toNatClampNeg = i := nI_clamp (by omega)
    have hs := (a_slots i (by omega)).2
    have k_sl := hs.1
    refine mw_aload_n dX6_rest_10 rfl ?_
    refine mw_getr dX6_rest_11 fl_X6_37 rfl (by assumption) (by assumption) ?_
    refine mw_iload_n dX6_rest_14 rfl ?_
    refine mw_aldK (k := i) dX6_rest_15 (by assumption) (by decide) (rfl) (by omega) (by decide) ((a_slots i (by omega)).1) ?_
    refine mw_astN 3 dX6_rest_16 rfl (by decide) ?_
    refine mw_aload_n dX6_rest_17 rfl ?_
    refine mw_geti dX6_rest_18 fl_X6_277 rfl (k_sl) ?_
    refine mw_if_ne (tgt := 27) dX6_rest_21 (by decide) (fun h21 => ?_) (fun h21 => ?_)
    · skip
      refine mw_aload_n dX6_rest_27 rfl ?_
      refine mw_geti dX6_rest_28 fl_X6_277 rfl (k_sl) ?_
      refine mw_iconst (v := 3) dX6_rest_31 (by decide) ?_
      refine mw_icmp_eq (tgt := 38) dX6_rest_32 (by decide) (fun h32 => ?_) (fun h32 => ?_)
      · skip
        refine mw_iload_n dX6_rest_38 rfl ?_
        refine mw_if_ne (tgt := 48) dX6_rest_39 (by decide) (fun h39 => ?_) (fun h39 => ?_)
        · skip
          refine mw_aload_n dX6_rest_48 rfl ?_
          refine mw_geti dX6_rest_49 fl_X6_293 rfl (k_sl) ?_
          refine mw_iload_n dX6_rest_52 rfl ?_
          refine mw_irem dX6_rest_53 (h39) ?_
          exact mw_iret dX6_rest_54 rfl (by decide) (by decide) (by first | (rw [cRest, if_pos h4, ev, if_neg h21, if_neg (fun g => g h32), if_pos h39]; exact ⟨rfl, rfl, rfl⟩) | (rw [cRest, if_pos h4, ev, if_neg h21, if_neg (fun g => g h32), if_neg h39]; exact ⟨rfl, rfl, rfl⟩) | fail "leaf")
        · skip
          refine mw_ldcw dX6_rest_42 cn_X6_296 ?_
          refine mw_goto (tgt := 54) dX6_rest_45 (by decide) ?_
          exact mw_iret dX6_rest_54 rfl (by decide) (by decide) (by first | (rw [cRest, if_pos h4, ev, if_neg h21, if_neg (fun g => g h32), if_pos h39]; exact ⟨rfl, rfl, rfl⟩) | (rw [cRest, if_pos h4, ev, if_neg h21, if_neg (fun g => g h32), if_neg h39]; exact ⟨rfl, rfl, rfl⟩) | fail "leaf")
      · skip
        refine mw_ldc dX6_rest_35 cn_X6_101 ?_
        exact mw_iret dX6_rest_37 rfl (by decide) (by decide) (by rw [cRest, if_pos h4, ev, if_neg h21, if_pos h32]; exact ⟨rfl, rfl, rfl⟩)
    · skip
      refine mw_ldc dX6_rest_24 cn_X6_193 ?_
      exact mw_iret dX6_rest_26 rfl (by decide) (by decide) (by rw [cRest, if_pos h4, ev, if_pos h21]; exact ⟨rfl, rfl, rfl⟩)
  · skip
    refine mw_ldc dX6_rest_7 cn_X6_58 ?_
    exact mw_iret dX6_rest_9 rfl (by decide) (by decide) (by rw [cRest, if_neg h4]; exact ⟨rfl, rfl, rfl⟩)
def cTell (mi : Mem) (x w : Nat) (v : Int32) : Int32 × Mem := if w < 60 then (nI (w + 1), m_up (m_up mi (x + 57) w v) x 8 (nI (w + 1))) else (FULLi, mi)
theorem dX6_tell_0 : decode fX6_tell.2.1 0 = .ok (.aload_n 0, 1) := by decide +kernel
theorem dX6_tell_1 : decode fX6_tell.2.1 1 = .ok (.getfield 297, 3) := by decide +kernel
theorem dX6_tell_4 : decode fX6_tell.2.1 4 = .ok (.bipush 60, 2) := by decide +kernel
theorem dX6_tell_6 : decode fX6_tell.2.1 6 = .ok (.if_icmp .lt 6, 3) := by decide +kernel
theorem dX6_tell_9 : decode fX6_tell.2.1 9 = .ok (.ldc 207, 2) := by decide +kernel
theorem dX6_tell_11 : decode fX6_tell.2.1 11 = .ok (.ireturn, 1) := by decide +kernel
theorem dX6_tell_12 : decode fX6_tell.2.1 12 = .ok (.aload_n 0, 1) := by decide +kernel
theorem dX6_tell_13 : decode fX6_tell.2.1 13 = .ok (.getfield 41, 3) := by decide +kernel
theorem dX6_tell_16 : decode fX6_tell.2.1 16 = .ok (.aload_n 0, 1) := by decide +kernel
theorem dX6_tell_17 : decode fX6_tell.2.1 17 = .ok (.getfield 297, 3) := by decide +kernel
theorem dX6_tell_20 : decode fX6_tell.2.1 20 = .ok (.iload_n 1, 1) := by decide +kernel
theorem dX6_tell_21 : decode fX6_tell.2.1 21 = .ok (.iastore, 1) := by decide +kernel
theorem dX6_tell_22 : decode fX6_tell.2.1 22 = .ok (.aload_n 0, 1) := by decide +kernel
theorem dX6_tell_23 : decode fX6_tell.2.1 23 = .ok (.dup, 1) := by decide +kernel
theorem dX6_tell_24 : decode fX6_tell.2.1 24 = .ok (.getfield 297, 3) := by decide +kernel
theorem dX6_tell_27 : decode fX6_tell.2.1 27 = .ok (.iconst 1, 1) := by decide +kernel
theorem dX6_tell_28 : decode fX6_tell.2.1 28 = .ok (.iadd, 1) := by decide +kernel
theorem dX6_tell_29 : decode fX6_tell.2.1 29 = .ok (.putfield 297, 3) := by decide +kernel
theorem dX6_tell_32 : decode fX6_tell.2.1 32 = .ok (.aload_n 0, 1) := by decide +kernel
theorem dX6_tell_33 : decode fX6_tell.2.1 33 = .ok (.getfield 297, 3) := by decide +kernel
theorem dX6_tell_36 : decode fX6_tell.2.1 36 = .ok (.ireturn, 1) := by decide +kernel
set_option maxRecDepth 100000 in
set_option maxHeartbeats 4000000 in
theorem ok_X6_tell {X : Xb} {S : Sg} {mi : Mem} {x w : Nat} {v : Int32} (hX : AsA S x) (hw : mi x 8 = nI w) (hw60 : w ≤ 60) : Ok 0 0 0 fX6_tell X [rf X x, .int v] S mi (PE S (cTell mi x w v)) := by
  refine Ok.go [some (rf X x), some (.int v)] (by decide) (by simp [Value.category]) (Nat.le_of_ble_eq_true rfl) rfl ?_
  obtain ⟨k_x, ⟨r_x_now, t_now⟩, ⟨r_x_thought, t_thought⟩, ⟨r_x_image, t_image⟩, ⟨r_x_tape, t_tape⟩, ⟨r_x_sheets, k_x_sheets⟩, ⟨r_x_slots, k_x_slots⟩, ⟨r_x_waiting, k_x_waiting⟩, ⟨r_x_diff, k_x_diff⟩, a_sheets, a_slots⟩ := id hX
  have nx : x ≠ x + 57 := by omega
  refine mw_aload_n dX6_tell_0 rfl ?_
  refine mw_geti dX6_tell_1 fl_X6_297 rfl (by assumption) ?_
  refine mw_bipush (v := 60) dX6_tell_4 (by decide) ?_
  rw [hw]
  refine mw_icmp_lt (tgt := 12) dX6_tell_6 (by decide) (fun h6 => ?_) (fun h6 => ?_)
  · skip
    have g : w < 60 := (nI_ltI (b := 60) (by omega) (by decide)).mp h6
    refine mw_aload_n dX6_tell_12 rfl ?_
    refine mw_getr dX6_tell_13 fl_X6_41 rfl (by assumption) (by assumption) ?_
    refine mw_aload_n dX6_tell_16 rfl ?_
    refine mw_geti dX6_tell_17 fl_X6_297 rfl (by assumption) ?_
    rw [hw]
    refine mw_iload_n dX6_tell_20 rfl ?_
    refine mw_iastK (k := w) dX6_tell_21 (by assumption) (rfl) (g) (by decide) ?_
    refine mw_aload_n dX6_tell_22 rfl ?_
    refine mw_dup dX6_tell_23 rfl ?_
    refine mw_geti dX6_tell_24 fl_X6_297 rfl (by assumption) ?_
    rw [m_up_ne nx, hw]
    refine mw_iconst (v := 1) dX6_tell_27 (by decide) ?_
    refine mw_iadd dX6_tell_28 ?_
    rw [nI_1]
    refine mw_puti dX6_tell_29 fl_X6_297 ft_6_8 rfl (rfl) rfl (by assumption) ?_
    refine mw_aload_n dX6_tell_32 rfl ?_
    refine mw_geti dX6_tell_33 fl_X6_297 rfl (by assumption) ?_
    rw [m_up_at]
    exact mw_iret dX6_tell_36 rfl (by decide) (by decide) (by rw [cTell, if_pos g]; exact ⟨rfl, rfl, rfl⟩)
  · skip
    refine mw_ldc dX6_tell_9 cn_X6_207 ?_
    exact mw_iret dX6_tell_11 rfl (by decide) (by decide) (by rw [cTell, if_neg (fun g => h6 (nI_lt (b := 60) g (by decide)))]; exact ⟨rfl, rfl, rfl⟩)
def cCount (mi : Mem) (x : Nat) (v : Int32) : Int32 := if v = 0 then mi (x + 1) 3 else if v = 1 then mi (x + 1) 10 else if v = 2 then mi (x + 1) 8 else if v = 3 then mi (x + 1) 9 else if v = 4 then mi (x + 1) 13 else if v = 5 then mi x 8 else if v = 6 then mi (x + 52) 1 else if v = 7 then mi (x + 1) 11 else BADi
theorem dX6_count_0 : decode fX6_count.2.1 0 = .ok (.iload_n 1, 1) := by decide +kernel
theorem dX6_count_1 : decode fX6_count.2.1 1 = .ok (.tableswitch 108 0 7 #[47, 55, 63, 71, 79, 87, 92, 100], 47) := by decide +kernel
theorem dX6_count_48 : decode fX6_count.2.1 48 = .ok (.aload_n 0, 1) := by decide +kernel
theorem dX6_count_49 : decode fX6_count.2.1 49 = .ok (.getfield 10, 3) := by decide +kernel
theorem dX6_count_52 : decode fX6_count.2.1 52 = .ok (.getfield 130, 3) := by decide +kernel
theorem dX6_count_55 : decode fX6_count.2.1 55 = .ok (.ireturn, 1) := by decide +kernel
theorem dX6_count_56 : decode fX6_count.2.1 56 = .ok (.aload_n 0, 1) := by decide +kernel
theorem dX6_count_57 : decode fX6_count.2.1 57 = .ok (.getfield 10, 3) := by decide +kernel
theorem dX6_count_60 : decode fX6_count.2.1 60 = .ok (.getfield 148, 3) := by decide +kernel
theorem dX6_count_63 : decode fX6_count.2.1 63 = .ok (.ireturn, 1) := by decide +kernel
theorem dX6_count_64 : decode fX6_count.2.1 64 = .ok (.aload_n 0, 1) := by decide +kernel
theorem dX6_count_65 : decode fX6_count.2.1 65 = .ok (.getfield 10, 3) := by decide +kernel
theorem dX6_count_68 : decode fX6_count.2.1 68 = .ok (.getfield 145, 3) := by decide +kernel
theorem dX6_count_71 : decode fX6_count.2.1 71 = .ok (.ireturn, 1) := by decide +kernel
theorem dX6_count_72 : decode fX6_count.2.1 72 = .ok (.aload_n 0, 1) := by decide +kernel
theorem dX6_count_73 : decode fX6_count.2.1 73 = .ok (.getfield 10, 3) := by decide +kernel
theorem dX6_count_76 : decode fX6_count.2.1 76 = .ok (.getfield 158, 3) := by decide +kernel
theorem dX6_count_79 : decode fX6_count.2.1 79 = .ok (.ireturn, 1) := by decide +kernel
theorem dX6_count_80 : decode fX6_count.2.1 80 = .ok (.aload_n 0, 1) := by decide +kernel
theorem dX6_count_81 : decode fX6_count.2.1 81 = .ok (.getfield 10, 3) := by decide +kernel
theorem dX6_count_84 : decode fX6_count.2.1 84 = .ok (.getfield 223, 3) := by decide +kernel
theorem dX6_count_87 : decode fX6_count.2.1 87 = .ok (.ireturn, 1) := by decide +kernel
theorem dX6_count_88 : decode fX6_count.2.1 88 = .ok (.aload_n 0, 1) := by decide +kernel
theorem dX6_count_89 : decode fX6_count.2.1 89 = .ok (.getfield 297, 3) := by decide +kernel
theorem dX6_count_92 : decode fX6_count.2.1 92 = .ok (.ireturn, 1) := by decide +kernel
theorem dX6_count_93 : decode fX6_count.2.1 93 = .ok (.aload_n 0, 1) := by decide +kernel
theorem dX6_count_94 : decode fX6_count.2.1 94 = .ok (.getfield 25, 3) := by decide +kernel
theorem dX6_count_97 : decode fX6_count.2.1 97 = .ok (.getfield 204, 3) := by decide +kernel
theorem dX6_count_100 : decode fX6_count.2.1 100 = .ok (.ireturn, 1) := by decide +kernel
theorem dX6_count_101 : decode fX6_count.2.1 101 = .ok (.aload_n 0, 1) := by decide +kernel
theorem dX6_count_102 : decode fX6_count.2.1 102 = .ok (.getfield 10, 3) := by decide +kernel
theorem dX6_count_105 : decode fX6_count.2.1 105 = .ok (.getfield 142, 3) := by decide +kernel
theorem dX6_count_108 : decode fX6_count.2.1 108 = .ok (.ireturn, 1) := by decide +kernel
theorem dX6_count_109 : decode fX6_count.2.1 109 = .ok (.ldc 58, 2) := by decide +kernel
theorem dX6_count_111 : decode fX6_count.2.1 111 = .ok (.ireturn, 1) := by decide +kernel
set_option maxRecDepth 100000 in
set_option maxHeartbeats 4000000 in
theorem ok_X6_count {X : Xb} {S : Sg} {mi : Mem} {x : Nat} {v : Int32} (hX : AsA S x) : Ok 0 0 0 fX6_count X [rf X x, .int v] S mi (PE S (cCount mi x v, mi)) := by
  refine Ok.go [some (rf X x), some (.int v)] (by decide) (by simp [Value.category]) (Nat.le_of_ble_eq_true rfl) rfl ?_
  obtain ⟨k_x, ⟨r_x_now, t_now⟩, ⟨r_x_thought, t_thought⟩, ⟨r_x_image, t_image⟩, ⟨r_x_tape, t_tape⟩, ⟨r_x_sheets, k_x_sheets⟩, ⟨r_x_slots, k_x_slots⟩, ⟨r_x_waiting, k_x_waiting⟩, ⟨r_x_diff, k_x_diff⟩, a_sheets, a_slots⟩ := id hX
  have k_n := t_now.1
  have k_tp := t_tape.1
  refine mw_iload_n dX6_count_0 rfl ?_
  refine mw_ts1 dX6_count_1 (by decide) 0 48 (by decide) (fun h1_0 => ?_) (fun h1_0 => ?_)
  · skip
    refine mw_aload_n dX6_count_48 rfl ?_
    refine mw_getr dX6_count_49 fl_X6_10 rfl (by assumption) (by assumption) ?_
    refine mw_geti dX6_count_52 fl_X6_130 rfl (by assumption) ?_
    exact mw_iret dX6_count_55 rfl (by decide) (by decide) (⟨by simp only [cCount]; simp_all, rfl, rfl⟩)
  refine mw_ts1 dX6_count_1 (by decide) 1 56 (by decide) (fun h1_1 => ?_) (fun h1_1 => ?_)
  · skip
    refine mw_aload_n dX6_count_56 rfl ?_
    refine mw_getr dX6_count_57 fl_X6_10 rfl (by assumption) (by assumption) ?_
    refine mw_geti dX6_count_60 fl_X6_148 rfl (by assumption) ?_
    exact mw_iret dX6_count_63 rfl (by decide) (by decide) (⟨by simp only [cCount]; simp_all, rfl, rfl⟩)
  refine mw_ts1 dX6_count_1 (by decide) 2 64 (by decide) (fun h1_2 => ?_) (fun h1_2 => ?_)
  · skip
    refine mw_aload_n dX6_count_64 rfl ?_
    refine mw_getr dX6_count_65 fl_X6_10 rfl (by assumption) (by assumption) ?_
    refine mw_geti dX6_count_68 fl_X6_145 rfl (by assumption) ?_
    exact mw_iret dX6_count_71 rfl (by decide) (by decide) (⟨by simp only [cCount]; simp_all, rfl, rfl⟩)
  refine mw_ts1 dX6_count_1 (by decide) 3 72 (by decide) (fun h1_3 => ?_) (fun h1_3 => ?_)
  · skip
    refine mw_aload_n dX6_count_72 rfl ?_
    refine mw_getr dX6_count_73 fl_X6_10 rfl (by assumption) (by assumption) ?_
    refine mw_geti dX6_count_76 fl_X6_158 rfl (by assumption) ?_
    exact mw_iret dX6_count_79 rfl (by decide) (by decide) (⟨by simp only [cCount]; simp_all, rfl, rfl⟩)
  refine mw_ts1 dX6_count_1 (by decide) 4 80 (by decide) (fun h1_4 => ?_) (fun h1_4 => ?_)
  · skip
    refine mw_aload_n dX6_count_80 rfl ?_
    refine mw_getr dX6_count_81 fl_X6_10 rfl (by assumption) (by assumption) ?_
    refine mw_geti dX6_count_84 fl_X6_223 rfl (by assumption) ?_
    exact mw_iret dX6_count_87 rfl (by decide) (by decide) (⟨by simp only [cCount]; simp_all, rfl, rfl⟩)
  refine mw_ts1 dX6_count_1 (by decide) 5 88 (by decide) (fun h1_5 => ?_) (fun h1_5 => ?_)
  · skip
    refine mw_aload_n dX6_count_88 rfl ?_
    refine mw_geti dX6_count_89 fl_X6_297 rfl (by assumption) ?_
    exact mw_iret dX6_count_92 rfl (by decide) (by decide) (⟨by simp only [cCount]; simp_all, rfl, rfl⟩)
  refine mw_ts1 dX6_count_1 (by decide) 6 93 (by decide) (fun h1_6 => ?_) (fun h1_6 => ?_)
  · skip
    refine mw_aload_n dX6_count_93 rfl ?_
    refine mw_getr dX6_count_94 fl_X6_25 rfl (by assumption) (by assumption) ?_
    refine mw_geti dX6_count_97 fl_X6_204 rfl (by assumption) ?_
    exact mw_iret dX6_count_100 rfl (by decide) (by decide) (⟨by simp only [cCount]; simp_all, rfl, rfl⟩)
  refine mw_ts1 dX6_count_1 (by decide) 7 101 (by decide) (fun h1_7 => ?_) (fun h1_7 => ?_)
  · skip
    refine mw_aload_n dX6_count_101 rfl ?_
    refine mw_getr dX6_count_102 fl_X6_10 rfl (by assumption) (by assumption) ?_
    refine mw_geti dX6_count_105 fl_X6_142 rfl (by assumption) ?_
    exact mw_iret dX6_count_108 rfl (by decide) (by decide) (⟨by simp only [cCount]; simp_all, rfl, rfl⟩)
  refine mw_ts0 dX6_count_1 (by decide) 109 (by decide) (by have e0 := ne_toI (n := 0) (by decide) h1_0; have e1 := ne_toI (n := 1) (by decide) h1_1; have e2 := ne_toI (n := 2) (by decide) h1_2; have e3 := ne_toI (n := 3) (by decide) h1_3; have e4 := ne_toI (n := 4) (by decide) h1_4; have e5 := ne_toI (n := 5) (by decide) h1_5; have e6 := ne_toI (n := 6) (by decide) h1_6; have e7 := ne_toI (n := 7) (by decide) h1_7; omega) ?_
  refine mw_ldc dX6_count_109 cn_X6_58 ?_
  exact mw_iret dX6_count_111 rfl (by decide) (by decide) (⟨by simp only [cCount]; simp_all, rfl, rfl⟩)
theorem dX6_keep_0 : decode fX6_keep.2.1 0 = .ok (.aload_n 0, 1) := by decide +kernel
theorem dX6_keep_1 : decode fX6_keep.2.1 1 = .ok (.getfield 19, 3) := by decide +kernel
theorem dX6_keep_4 : decode fX6_keep.2.1 4 = .ok (.aload_n 0, 1) := by decide +kernel
theorem dX6_keep_5 : decode fX6_keep.2.1 5 = .ok (.getfield 10, 3) := by decide +kernel
theorem dX6_keep_8 : decode fX6_keep.2.1 8 = .ok (.invokevirtual 178, 3) := by decide +kernel
theorem dX6_keep_11 : decode fX6_keep.2.1 11 = .ok (.aload_n 0, 1) := by decide +kernel
theorem dX6_keep_12 : decode fX6_keep.2.1 12 = .ok (.iconst 1, 1) := by decide +kernel
theorem dX6_keep_13 : decode fX6_keep.2.1 13 = .ok (.putfield 300, 3) := by decide +kernel
theorem dX6_keep_16 : decode fX6_keep.2.1 16 = .ok (.aload_n 0, 1) := by decide +kernel
theorem dX6_keep_17 : decode fX6_keep.2.1 17 = .ok (.getfield 10, 3) := by decide +kernel
theorem dX6_keep_20 : decode fX6_keep.2.1 20 = .ok (.getfield 130, 3) := by decide +kernel
theorem dX6_keep_23 : decode fX6_keep.2.1 23 = .ok (.ireturn, 1) := by decide +kernel
set_option maxRecDepth 100000 in
set_option maxHeartbeats 4000000 in
theorem ok_X6_keep {X : Xb} {S : Sg} {mi : Mem} {x n : Nat} (hX : AsA S x) (hn : mi (x + 1) 3 = nI n) (hn8 : n ≤ 8) (hr : TxR S (x + 1)) : Ok 2 0 0 fX6_keep X [rf X x] S mi (fun r S' m => r = some (.int (nI n)) ∧ S' = cpS S (x + 35) (x + 1) 14 ∧ m x = upd (mi x) 3 1 ∧ (∀ a, a < x ∨ (x < a ∧ a < x + 35) ∨ x + 52 ≤ a → m a = mi a) ∧ eqOn (26 + 5 * n) (tv m (x + 35)) (tv mi (x + 1)) ∧ ∀ j, j < 3 → m (x + 35 + 5) j = mi (x + 1 + 5) j) := by
  refine Ok.go [some (rf X x)] (by decide) (by simp [Value.category]) (Nat.le_of_ble_eq_true rfl) rfl ?_
  obtain ⟨k_x, ⟨r_x_now, t_now⟩, ⟨r_x_thought, t_thought⟩, ⟨r_x_image, t_image⟩, ⟨r_x_tape, t_tape⟩, ⟨r_x_sheets, k_x_sheets⟩, ⟨r_x_slots, k_x_slots⟩, ⟨r_x_waiting, k_x_waiting⟩, ⟨r_x_diff, k_x_diff⟩, a_sheets, a_slots⟩ := id hX
  have nx : x ≠ x + 35 + 4 := by omega
  have k_x2 : Kd (cpS S (x + 35) (x + 1) 14) x 6 0 := k_x
  have r_x2 : (cpS S (x + 35) (x + 1) 14).2.2 x 0 = some (x + 1) := by show cpR S.2.2 (x + 35) (x + 1) 14 x 0 = _; simp only [cpR, nx, false_and, if_false]; exact r_x_now
  have k_n : Kd (cpS S (x + 35) (x + 1) 14) (x + 1) 5 0 := t_now.1
  refine mw_aload_n dX6_keep_0 rfl ?_
  refine mw_getr dX6_keep_1 fl_X6_19 rfl (by assumption) (by assumption) ?_
  refine mw_aload_n dX6_keep_4 rfl ?_
  refine mw_getr dX6_keep_5 fl_X6_10 rfl (by assumption) (by assumption) ?_
  refine mw_callV (g := fX5_takeAfter) dX6_keep_8 ml_X6_178 mfX5_takeAfter (ok_X5_takeAfter (n := n) t_image t_now (by omega) hn hn8 hr) (t_image.1) rfl rfl (Nat.le_of_ble_eq_true rfl) ⟨by decide, by decide⟩ ⟨by decide, by decide⟩ (fun r S2 mi2 hp => ?_)
  obtain ⟨rfl, e1, e2, e3, e4⟩ := hp
  rw [e1]
  refine mw_aload_n dX6_keep_11 rfl ?_
  refine mw_iconst (v := 1) dX6_keep_12 (by decide) ?_
  refine mw_puti dX6_keep_13 fl_X6_300 ft_6_3 rfl (rfl) rfl (by assumption) ?_
  refine mw_aload_n dX6_keep_16 rfl ?_
  refine mw_getr dX6_keep_17 fl_X6_10 rfl (by assumption) (by assumption) ?_
  refine mw_geti dX6_keep_20 fl_X6_130 rfl (by assumption) ?_
  rw [m_up_ne (show x + 1 ≠ x by omega), e2 (x + 1) (by omega), hn]
  exact mw_iret dX6_keep_23 rfl (by decide) (by decide) (⟨rfl, rfl, by rw [m_up_row, e2 x (by omega)], fun a ha => by rw [m_up_ne (by omega)]; exact e2 a (by omega), fun j hj => by rw [← e3 j hj]; unfold tv; rw [m_up_ne (show x + 35 ≠ x by omega), m_up_ne (show x + 35 + 1 ≠ x by omega), m_up_ne (show x + 35 + 2 ≠ x by omega), m_up_ne (show x + 35 + 9 + (j - 26) / 5 ≠ x by omega)], fun j hj => by rw [m_up_ne (by omega)]; exact e4 j hj⟩)
theorem dX6_back_0 : decode fX6_back.2.1 0 = .ok (.aload_n 0, 1) := by decide +kernel
theorem dX6_back_1 : decode fX6_back.2.1 1 = .ok (.getfield 300, 3) := by decide +kernel
theorem dX6_back_4 : decode fX6_back.2.1 4 = .ok (.ifCond .ne 7, 3) := by decide +kernel
theorem dX6_back_7 : decode fX6_back.2.1 7 = .ok (.ldc_w 296, 3) := by decide +kernel
theorem dX6_back_10 : decode fX6_back.2.1 10 = .ok (.ireturn, 1) := by decide +kernel
theorem dX6_back_11 : decode fX6_back.2.1 11 = .ok (.aload_n 0, 1) := by decide +kernel
theorem dX6_back_12 : decode fX6_back.2.1 12 = .ok (.getfield 10, 3) := by decide +kernel
theorem dX6_back_15 : decode fX6_back.2.1 15 = .ok (.aload_n 0, 1) := by decide +kernel
theorem dX6_back_16 : decode fX6_back.2.1 16 = .ok (.getfield 19, 3) := by decide +kernel
theorem dX6_back_19 : decode fX6_back.2.1 19 = .ok (.invokevirtual 178, 3) := by decide +kernel
theorem dX6_back_22 : decode fX6_back.2.1 22 = .ok (.aload_n 0, 1) := by decide +kernel
theorem dX6_back_23 : decode fX6_back.2.1 23 = .ok (.getfield 10, 3) := by decide +kernel
theorem dX6_back_26 : decode fX6_back.2.1 26 = .ok (.getfield 130, 3) := by decide +kernel
theorem dX6_back_29 : decode fX6_back.2.1 29 = .ok (.ireturn, 1) := by decide +kernel
set_option maxRecDepth 100000 in
set_option maxHeartbeats 4000000 in
theorem ok_X6_back {X : Xb} {S : Sg} {mi : Mem} {x n : Nat} (hX : AsA S x) (hk : mi x 3 = 0 ∨ mi x 3 = 1) (hn : mi x 3 = 1 → mi (x + 35) 3 = nI n ∧ n ≤ 8 ∧ TxR S (x + 35)) : Ok 2 0 0 fX6_back X [rf X x] S mi (fun r S' m => (mi x 3 = 0 ∧ r = some (.int NOi) ∧ S' = S ∧ m = mi) ∨ (mi x 3 = 1 ∧ r = some (.int (nI n)) ∧ S' = cpS S (x + 1) (x + 35) 14 ∧ (∀ a, a < x + 1 ∨ x + 18 ≤ a → m a = mi a) ∧ eqOn (26 + 5 * n) (tv m (x + 1)) (tv mi (x + 35)) ∧ ∀ j, j < 3 → m (x + 1 + 5) j = mi (x + 35 + 5) j)) := by
  refine Ok.go [some (rf X x)] (by decide) (by simp [Value.category]) (Nat.le_of_ble_eq_true rfl) rfl ?_
  obtain ⟨k_x, ⟨r_x_now, t_now⟩, ⟨r_x_thought, t_thought⟩, ⟨r_x_image, t_image⟩, ⟨r_x_tape, t_tape⟩, ⟨r_x_sheets, k_x_sheets⟩, ⟨r_x_slots, k_x_slots⟩, ⟨r_x_waiting, k_x_waiting⟩, ⟨r_x_diff, k_x_diff⟩, a_sheets, a_slots⟩ := id hX
  have nx : x ≠ x + 1 + 4 := by omega
  have k_x2 : Kd (cpS S (x + 1) (x + 35) 14) x 6 0 := k_x
  have r_x2 : (cpS S (x + 1) (x + 35) 14).2.2 x 0 = some (x + 1) := by show cpR S.2.2 (x + 1) (x + 35) 14 x 0 = _; simp only [cpR, nx, false_and, if_false]; exact r_x_now
  have k_n : Kd (cpS S (x + 1) (x + 35) 14) (x + 1) 5 0 := t_now.1
  refine mw_aload_n dX6_back_0 rfl ?_
  refine mw_geti dX6_back_1 fl_X6_300 rfl (by assumption) ?_
  refine mw_if_ne (tgt := 11) dX6_back_4 (by decide) (fun h4 => ?_) (fun h4 => ?_)
  · skip
    have h1 : mi x 3 = 1 := hk.resolve_left h4
    obtain ⟨hn1, hn8, hr⟩ := hn h1
    refine mw_aload_n dX6_back_11 rfl ?_
    refine mw_getr dX6_back_12 fl_X6_10 rfl (by assumption) (by assumption) ?_
    refine mw_aload_n dX6_back_15 rfl ?_
    refine mw_getr dX6_back_16 fl_X6_19 rfl (by assumption) (by assumption) ?_
    refine mw_callV (g := fX5_takeAfter) dX6_back_19 ml_X6_178 mfX5_takeAfter (ok_X5_takeAfter (n := n) t_now t_image (by omega) hn1 hn8 hr) (t_now.1) rfl rfl (Nat.le_of_ble_eq_true rfl) ⟨by decide, by decide⟩ ⟨by decide, by decide⟩ (fun r S2 mi2 hp => ?_)
    obtain ⟨rfl, e1, e2, e3, e4⟩ := hp
    rw [e1]
    have e5 := e3 1 (by omega)
    simp only [tv, show (1 : Nat) < 10 by decide, if_true, show tvF 1 = 3 from rfl] at e5
    refine mw_aload_n dX6_back_22 rfl ?_
    refine mw_getr dX6_back_23 fl_X6_10 rfl (by assumption) (by assumption) ?_
    refine mw_geti dX6_back_26 fl_X6_130 rfl (by assumption) ?_
    rw [e5, hn1]
    exact mw_iret dX6_back_29 rfl (by decide) (by decide) (Or.inr ⟨h1, rfl, rfl, fun a ha => e2 a (by omega), e3, e4⟩)
  · skip
    refine mw_ldcw dX6_back_7 cn_X6_296 ?_
    exact mw_iret dX6_back_10 rfl (by decide) (by decide) (Or.inl ⟨h4, rfl, rfl, rfl⟩)
