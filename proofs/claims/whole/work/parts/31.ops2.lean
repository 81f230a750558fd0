/-! the object's calls: turns, set, star, starOf, chimney, smokes, rule, seed -/
theorem tv_upH {N t k : Nat} {m : Mem} {B : Nat → Int32} {v : Int32} (hk : k < 8) (h : eqOn N (tv m t) B) : eqOn N (tv (m_up m (t + 1) k v) t) (upd B (10 + k) v) := by
  intro i hi
  have h0 := h i hi
  simp only [tv] at h0 ⊢
  rw [m_up_ne (show t ≠ t + 1 by omega), m_up_ne (show t + 2 ≠ t + 1 by omega), m_up_ne (show t + 9 + (i - 26) / 5 ≠ t + 1 by omega)]
  by_cases c : i = 10 + k
  · subst c
    simp only [show ¬ 10 + k < 10 by omega, show 10 + k < 18 by omega, if_false, if_true, upd, show 10 + k - 10 = k by omega, m_up, and_self]
  · simp only [upd, c, if_false]
    by_cases c1 : i < 10
    · simp only [c1, if_true] at h0 ⊢; exact h0
    · by_cases c2 : i < 18
      · simp only [c1, c2, if_true, if_false] at h0 ⊢
        rw [m_up_of (by omega)]; exact h0
      · simp only [c1, c2, if_false] at h0 ⊢; exact h0
theorem tv_upP {N t k : Nat} {m : Mem} {B : Nat → Int32} {v : Int32} (hk : k < 8) (h : eqOn N (tv m t) B) : eqOn N (tv (m_up m (t + 2) k v) t) (upd B (18 + k) v) := by
  intro i hi
  have h0 := h i hi
  simp only [tv] at h0 ⊢
  rw [m_up_ne (show t ≠ t + 2 by omega), m_up_ne (show t + 1 ≠ t + 2 by omega), m_up_ne (show t + 9 + (i - 26) / 5 ≠ t + 2 by omega)]
  by_cases c : i = 18 + k
  · subst c
    simp only [show ¬ 18 + k < 10 by omega, show ¬ 18 + k < 18 by omega, show 18 + k < 26 by omega, if_false, if_true, upd, show 18 + k - 18 = k by omega, m_up, and_self]
  · simp only [upd, c, if_false]
    by_cases c1 : i < 10
    · simp only [c1, if_true] at h0 ⊢; exact h0
    · by_cases c2 : i < 18
      · simp only [c1, c2, if_true, if_false] at h0 ⊢; exact h0
      · by_cases c3 : i < 26
        · simp only [c1, c2, c3, if_true, if_false] at h0 ⊢
          rw [m_up_of (by omega)]; exact h0
        · simp only [c1, c2, c3, if_false] at h0 ⊢; exact h0
theorem in7 {v : Int32} (h : 0 ≤ v ∧ v ≤ 7) : ∃ k, k < 8 ∧ v = nI k := by
  obtain ⟨j, hj, rfl⟩ := nI_of (Int32.not_lt.mpr h.1)
  exact ⟨j, by have := (nI_leI (b := 7) hj (by decide)).mp h.2; omega, rfl⟩
def sTurns (A : Nat → Int32) (n : Nat) (v k : Int32) : Sp := if (0 ≤ v ∧ v ≤ nI n - 1) ∧ (0 ≤ k ∧ k ≤ 5) then (A (26 + 5 * v.toNatClampNeg), upd A (26 + 5 * v.toNatClampNeg) k, n) else (BADi, A, n)
theorem dX6_turns_0 : decode fX6_turns.2.1 0 = .ok (.aload_n 0, 1) := by decide +kernel
theorem dX6_turns_1 : decode fX6_turns.2.1 1 = .ok (.iload_n 1, 1) := by decide +kernel
theorem dX6_turns_2 : decode fX6_turns.2.1 2 = .ok (.invokevirtual 63, 3) := by decide +kernel
theorem dX6_turns_5 : decode fX6_turns.2.1 5 = .ok (.ifCond .eq 12, 3) := by decide +kernel
theorem dX6_turns_8 : decode fX6_turns.2.1 8 = .ok (.iload_n 2, 1) := by decide +kernel
theorem dX6_turns_9 : decode fX6_turns.2.1 9 = .ok (.iconst 0, 1) := by decide +kernel
theorem dX6_turns_10 : decode fX6_turns.2.1 10 = .ok (.iconst 5, 1) := by decide +kernel
theorem dX6_turns_11 : decode fX6_turns.2.1 11 = .ok (.invokestatic 50, 3) := by decide +kernel
theorem dX6_turns_14 : decode fX6_turns.2.1 14 = .ok (.ifCond .ne 6, 3) := by decide +kernel
theorem dX6_turns_17 : decode fX6_turns.2.1 17 = .ok (.ldc 58, 2) := by decide +kernel
theorem dX6_turns_19 : decode fX6_turns.2.1 19 = .ok (.ireturn, 1) := by decide +kernel
theorem dX6_turns_20 : decode fX6_turns.2.1 20 = .ok (.aload_n 0, 1) := by decide +kernel
theorem dX6_turns_21 : decode fX6_turns.2.1 21 = .ok (.getfield 10, 3) := by decide +kernel
theorem dX6_turns_24 : decode fX6_turns.2.1 24 = .ok (.getfield 66, 3) := by decide +kernel
theorem dX6_turns_27 : decode fX6_turns.2.1 27 = .ok (.iload_n 1, 1) := by decide +kernel
theorem dX6_turns_28 : decode fX6_turns.2.1 28 = .ok (.aaload, 1) := by decide +kernel
theorem dX6_turns_29 : decode fX6_turns.2.1 29 = .ok (.astore_n 3, 1) := by decide +kernel
theorem dX6_turns_30 : decode fX6_turns.2.1 30 = .ok (.aload_n 3, 1) := by decide +kernel
theorem dX6_turns_31 : decode fX6_turns.2.1 31 = .ok (.getfield 70, 3) := by decide +kernel
theorem dX6_turns_34 : decode fX6_turns.2.1 34 = .ok (.istore 4, 2) := by decide +kernel
theorem dX6_turns_36 : decode fX6_turns.2.1 36 = .ok (.aload_n 3, 1) := by decide +kernel
theorem dX6_turns_37 : decode fX6_turns.2.1 37 = .ok (.iload_n 2, 1) := by decide +kernel
theorem dX6_turns_38 : decode fX6_turns.2.1 38 = .ok (.putfield 70, 3) := by decide +kernel
theorem dX6_turns_41 : decode fX6_turns.2.1 41 = .ok (.iload 4, 2) := by decide +kernel
theorem dX6_turns_43 : decode fX6_turns.2.1 43 = .ok (.ireturn, 1) := by decide +kernel
set_option maxRecDepth 100000 in
set_option maxHeartbeats 4000000 in
theorem ok_X6_turns {X : Xb} {S : Sg} {mi : Mem} {x n : Nat} {A : Nat → Int32} {v k : Int32} (hX : AsA S x) (hn8 : n ≤ 8) (hA : eqOn (26 + 5 * n) (tv mi (x + 1)) A) (hn : A 1 = nI n) : Ok 2 0 0 fX6_turns X [rf X x, .int v, .int k] S mi (PS S mi x (sTurns A n v k)) := by
  refine Ok.go [some (rf X x), some (.int v), some (.int k), none, none] (by decide) (by simp [Value.category]) (Nat.le_of_ble_eq_true rfl) rfl ?_
  obtain ⟨k_x, ⟨r_x_now, t_now⟩, ⟨r_x_thought, t_thought⟩, ⟨r_x_image, t_image⟩, ⟨r_x_tape, t_tape⟩, ⟨r_x_sheets, k_x_sheets⟩, ⟨r_x_slots, k_x_slots⟩, ⟨r_x_waiting, k_x_waiting⟩, ⟨r_x_diff, k_x_diff⟩, a_sheets, a_slots⟩ := id hX
  obtain ⟨k_t, ⟨r_t_home, k_t_home⟩, ⟨r_t_price, k_t_price⟩, ⟨r_t_attics, k_t_attics⟩, ⟨r_t_texts, k_t_texts⟩, ⟨r_t_counting, k_t_counting⟩, ⟨r_t_names, k_t_names⟩, ⟨r_t_pile, k_t_pile⟩, ⟨r_t_views, k_t_views⟩, a_t⟩ := id t_now
  have ec : mi (x + 1) 3 = nI n := by rw [show (3 : Nat) = tvF 1 from rfl, tv_0 hA (by decide) (by omega), hn]
  have z := Fr1.rf (x + 1) mi
  refine mw_aload_n dX6_turns_0 rfl ?_
  refine mw_iload_n dX6_turns_1 rfl ?_
  refine mw_cVI (g := fX6_isAttic) dX6_turns_2 ml_X6_63 mfX6_isAttic (ok_X6_isAttic hX ec) (by assumption) rfl rfl (Nat.le_of_ble_eq_true rfl) ⟨by decide, by decide⟩ ⟨by decide, by decide⟩ ?_
  refine mw_if_eqB (tgt := 17) dX6_turns_5 (by decide) (fun h5 => ?_) (fun h5 => ?_)
  · skip
    refine mw_ldc dX6_turns_17 cn_X6_58 ?_
    exact mw_iret dX6_turns_19 rfl (by decide) (by decide) (by rw [sTurns, if_neg (by grind)]; exact ⟨rfl, rfl, hA, z⟩)
  · skip
    refine mw_iload_n dX6_turns_8 rfl ?_
    refine mw_iconst (v := 0) dX6_turns_9 (by decide) ?_
    refine mw_iconst (v := 5) dX6_turns_10 (by decide) ?_
    refine mw_cSI (g := fX6_within) dX6_turns_11 ml_X6_50 mfX6_within (ok_X6_within) rfl rfl (Nat.le_of_ble_eq_true rfl) ⟨by decide, by decide⟩ ⟨by decide, by decide⟩ ?_
    refine mw_if_neB (tgt := 20) dX6_turns_14 (by decide) (fun h14 => ?_) (fun h14 => ?_)
    · skip
      obtain ⟨a, han, rfl⟩ := inAt h5 hn8
      have hka := (a_t a (by omega)).2
      have ecl : (nI a).toNatClampNeg = a := nI_clamp (by omega)
      have eq0 := tv_A (a := a) (f := 0) hA (by decide) (by omega)
      refine mw_aload_n dX6_turns_20 rfl ?_
      refine mw_getr dX6_turns_21 fl_X6_10 rfl (by assumption) (by assumption) ?_
      refine mw_getr dX6_turns_24 fl_X6_66 rfl (by assumption) (by assumption) ?_
      refine mw_iload_n dX6_turns_27 rfl ?_
      refine mw_aldK (k := a) dX6_turns_28 (by assumption) (by decide) (rfl) (by omega) (by decide) ((a_t a (by omega)).1) ?_
      refine mw_astN 3 dX6_turns_29 rfl (by decide) ?_
      refine mw_aload_n dX6_turns_30 rfl ?_
      refine mw_geti dX6_turns_31 fl_X6_70 rfl (by assumption) ?_
      refine mw_istore dX6_turns_34 (by decide) ?_
      refine mw_aload_n dX6_turns_36 rfl ?_
      refine mw_iload_n dX6_turns_37 rfl ?_
      refine mw_puti dX6_turns_38 fl_X6_70 ft_0_0 rfl (rfl) rfl (by assumption) ?_
      refine mw_iload dX6_turns_41 rfl ?_
      exact mw_iret dX6_turns_43 rfl (by decide) (by decide) (by rw [sTurns, if_pos (And.intro h5 h14), ecl]; exact ⟨by rw [eq0]; rfl, rfl, tv_upA (f := 0) (by omega) (by decide) hA, z.up (by omega)⟩)
    · skip
      refine mw_ldc dX6_turns_17 cn_X6_58 ?_
      exact mw_iret dX6_turns_19 rfl (by decide) (by decide) (by rw [sTurns, if_neg (by grind)]; exact ⟨rfl, rfl, hA, z⟩)
def sSet (A : Nat → Int32) (n : Nat) (v w y : Int32) : Sp := if 0 ≤ v ∧ v ≤ nI n - 1 then (if (w = 1 ∧ 0 ≤ y ∧ y ≤ 23) ∨ (w = 2 ∧ 1 ≤ y ∧ y ≤ 12) ∨ ((w = 3 ∨ w = 4) ∧ 0 ≤ y ∧ y ≤ 9999) then (A (26 + 5 * v.toNatClampNeg + w.toNatClampNeg), upd A (26 + 5 * v.toNatClampNeg + w.toNatClampNeg) y, n) else (BADi, A, n)) else (BADi, A, n)
theorem dX6_set_0 : decode fX6_set.2.1 0 = .ok (.aload_n 0, 1) := by decide +kernel
theorem dX6_set_1 : decode fX6_set.2.1 1 = .ok (.iload_n 1, 1) := by decide +kernel
theorem dX6_set_2 : decode fX6_set.2.1 2 = .ok (.invokevirtual 63, 3) := by decide +kernel
theorem dX6_set_5 : decode fX6_set.2.1 5 = .ok (.ifCond .ne 6, 3) := by decide +kernel
theorem dX6_set_8 : decode fX6_set.2.1 8 = .ok (.ldc 58, 2) := by decide +kernel
theorem dX6_set_10 : decode fX6_set.2.1 10 = .ok (.ireturn, 1) := by decide +kernel
theorem dX6_set_11 : decode fX6_set.2.1 11 = .ok (.aload_n 0, 1) := by decide +kernel
theorem dX6_set_12 : decode fX6_set.2.1 12 = .ok (.getfield 10, 3) := by decide +kernel
theorem dX6_set_15 : decode fX6_set.2.1 15 = .ok (.getfield 66, 3) := by decide +kernel
theorem dX6_set_18 : decode fX6_set.2.1 18 = .ok (.iload_n 1, 1) := by decide +kernel
theorem dX6_set_19 : decode fX6_set.2.1 19 = .ok (.aaload, 1) := by decide +kernel
theorem dX6_set_20 : decode fX6_set.2.1 20 = .ok (.astore 4, 2) := by decide +kernel
theorem dX6_set_22 : decode fX6_set.2.1 22 = .ok (.ldc 58, 2) := by decide +kernel
theorem dX6_set_24 : decode fX6_set.2.1 24 = .ok (.istore 5, 2) := by decide +kernel
theorem dX6_set_26 : decode fX6_set.2.1 26 = .ok (.iload_n 2, 1) := by decide +kernel
theorem dX6_set_27 : decode fX6_set.2.1 27 = .ok (.iconst 1, 1) := by decide +kernel
theorem dX6_set_28 : decode fX6_set.2.1 28 = .ok (.if_icmp .ne 26, 3) := by decide +kernel
theorem dX6_set_31 : decode fX6_set.2.1 31 = .ok (.iload_n 3, 1) := by decide +kernel
theorem dX6_set_32 : decode fX6_set.2.1 32 = .ok (.invokestatic 54, 3) := by decide +kernel
theorem dX6_set_35 : decode fX6_set.2.1 35 = .ok (.ifCond .eq 19, 3) := by decide +kernel
theorem dX6_set_38 : decode fX6_set.2.1 38 = .ok (.aload 4, 2) := by decide +kernel
theorem dX6_set_40 : decode fX6_set.2.1 40 = .ok (.getfield 76, 3) := by decide +kernel
theorem dX6_set_43 : decode fX6_set.2.1 43 = .ok (.istore 5, 2) := by decide +kernel
theorem dX6_set_45 : decode fX6_set.2.1 45 = .ok (.aload 4, 2) := by decide +kernel
theorem dX6_set_47 : decode fX6_set.2.1 47 = .ok (.iload_n 3, 1) := by decide +kernel
theorem dX6_set_48 : decode fX6_set.2.1 48 = .ok (.putfield 76, 3) := by decide +kernel
theorem dX6_set_51 : decode fX6_set.2.1 51 = .ok (.goto 95, 3) := by decide +kernel
theorem dX6_set_54 : decode fX6_set.2.1 54 = .ok (.iload_n 2, 1) := by decide +kernel
theorem dX6_set_55 : decode fX6_set.2.1 55 = .ok (.iconst 2, 1) := by decide +kernel
theorem dX6_set_56 : decode fX6_set.2.1 56 = .ok (.if_icmp .ne 29, 3) := by decide +kernel
theorem dX6_set_59 : decode fX6_set.2.1 59 = .ok (.iload_n 3, 1) := by decide +kernel
theorem dX6_set_60 : decode fX6_set.2.1 60 = .ok (.iconst 1, 1) := by decide +kernel
theorem dX6_set_61 : decode fX6_set.2.1 61 = .ok (.bipush 12, 2) := by decide +kernel
theorem dX6_set_63 : decode fX6_set.2.1 63 = .ok (.invokestatic 50, 3) := by decide +kernel
theorem dX6_set_66 : decode fX6_set.2.1 66 = .ok (.ifCond .eq 19, 3) := by decide +kernel
theorem dX6_set_69 : decode fX6_set.2.1 69 = .ok (.aload 4, 2) := by decide +kernel
theorem dX6_set_71 : decode fX6_set.2.1 71 = .ok (.getfield 79, 3) := by decide +kernel
theorem dX6_set_74 : decode fX6_set.2.1 74 = .ok (.istore 5, 2) := by decide +kernel
theorem dX6_set_76 : decode fX6_set.2.1 76 = .ok (.aload 4, 2) := by decide +kernel
theorem dX6_set_78 : decode fX6_set.2.1 78 = .ok (.iload_n 3, 1) := by decide +kernel
theorem dX6_set_79 : decode fX6_set.2.1 79 = .ok (.putfield 79, 3) := by decide +kernel
theorem dX6_set_82 : decode fX6_set.2.1 82 = .ok (.goto 64, 3) := by decide +kernel
theorem dX6_set_85 : decode fX6_set.2.1 85 = .ok (.iload_n 2, 1) := by decide +kernel
theorem dX6_set_86 : decode fX6_set.2.1 86 = .ok (.iconst 3, 1) := by decide +kernel
theorem dX6_set_87 : decode fX6_set.2.1 87 = .ok (.if_icmp .ne 30, 3) := by decide +kernel
theorem dX6_set_90 : decode fX6_set.2.1 90 = .ok (.iload_n 3, 1) := by decide +kernel
theorem dX6_set_91 : decode fX6_set.2.1 91 = .ok (.iconst 0, 1) := by decide +kernel
theorem dX6_set_92 : decode fX6_set.2.1 92 = .ok (.sipush 9999, 3) := by decide +kernel
theorem dX6_set_95 : decode fX6_set.2.1 95 = .ok (.invokestatic 50, 3) := by decide +kernel
theorem dX6_set_98 : decode fX6_set.2.1 98 = .ok (.ifCond .eq 19, 3) := by decide +kernel
theorem dX6_set_101 : decode fX6_set.2.1 101 = .ok (.aload 4, 2) := by decide +kernel
theorem dX6_set_103 : decode fX6_set.2.1 103 = .ok (.getfield 82, 3) := by decide +kernel
theorem dX6_set_106 : decode fX6_set.2.1 106 = .ok (.istore 5, 2) := by decide +kernel
theorem dX6_set_108 : decode fX6_set.2.1 108 = .ok (.aload 4, 2) := by decide +kernel
theorem dX6_set_110 : decode fX6_set.2.1 110 = .ok (.iload_n 3, 1) := by decide +kernel
theorem dX6_set_111 : decode fX6_set.2.1 111 = .ok (.putfield 82, 3) := by decide +kernel
theorem dX6_set_114 : decode fX6_set.2.1 114 = .ok (.goto 32, 3) := by decide +kernel
theorem dX6_set_117 : decode fX6_set.2.1 117 = .ok (.iload_n 2, 1) := by decide +kernel
theorem dX6_set_118 : decode fX6_set.2.1 118 = .ok (.iconst 4, 1) := by decide +kernel
theorem dX6_set_119 : decode fX6_set.2.1 119 = .ok (.if_icmp .ne 27, 3) := by decide +kernel
theorem dX6_set_122 : decode fX6_set.2.1 122 = .ok (.iload_n 3, 1) := by decide +kernel
theorem dX6_set_123 : decode fX6_set.2.1 123 = .ok (.iconst 0, 1) := by decide +kernel
theorem dX6_set_124 : decode fX6_set.2.1 124 = .ok (.sipush 9999, 3) := by decide +kernel
theorem dX6_set_127 : decode fX6_set.2.1 127 = .ok (.invokestatic 50, 3) := by decide +kernel
theorem dX6_set_130 : decode fX6_set.2.1 130 = .ok (.ifCond .eq 16, 3) := by decide +kernel
theorem dX6_set_133 : decode fX6_set.2.1 133 = .ok (.aload 4, 2) := by decide +kernel
theorem dX6_set_135 : decode fX6_set.2.1 135 = .ok (.getfield 85, 3) := by decide +kernel
theorem dX6_set_138 : decode fX6_set.2.1 138 = .ok (.istore 5, 2) := by decide +kernel
theorem dX6_set_140 : decode fX6_set.2.1 140 = .ok (.aload 4, 2) := by decide +kernel
theorem dX6_set_142 : decode fX6_set.2.1 142 = .ok (.iload_n 3, 1) := by decide +kernel
theorem dX6_set_143 : decode fX6_set.2.1 143 = .ok (.putfield 85, 3) := by decide +kernel
theorem dX6_set_146 : decode fX6_set.2.1 146 = .ok (.iload 5, 2) := by decide +kernel
theorem dX6_set_148 : decode fX6_set.2.1 148 = .ok (.ireturn, 1) := by decide +kernel
set_option maxRecDepth 100000 in
set_option maxHeartbeats 4000000 in
theorem ok_X6_set {X : Xb} {S : Sg} {mi : Mem} {x n : Nat} {A : Nat → Int32} {v w y : Int32} (hX : AsA S x) (hn8 : n ≤ 8) (hA : eqOn (26 + 5 * n) (tv mi (x + 1)) A) (hn : A 1 = nI n) : Ok 2 0 0 fX6_set X [rf X x, .int v, .int w, .int y] S mi (PS S mi x (sSet A n v w y)) := by
  refine Ok.go [some (rf X x), some (.int v), some (.int w), some (.int y), none, none] (by decide) (by simp [Value.category]) (Nat.le_of_ble_eq_true rfl) rfl ?_
  obtain ⟨k_x, ⟨r_x_now, t_now⟩, ⟨r_x_thought, t_thought⟩, ⟨r_x_image, t_image⟩, ⟨r_x_tape, t_tape⟩, ⟨r_x_sheets, k_x_sheets⟩, ⟨r_x_slots, k_x_slots⟩, ⟨r_x_waiting, k_x_waiting⟩, ⟨r_x_diff, k_x_diff⟩, a_sheets, a_slots⟩ := id hX
  obtain ⟨k_t, ⟨r_t_home, k_t_home⟩, ⟨r_t_price, k_t_price⟩, ⟨r_t_attics, k_t_attics⟩, ⟨r_t_texts, k_t_texts⟩, ⟨r_t_counting, k_t_counting⟩, ⟨r_t_names, k_t_names⟩, ⟨r_t_pile, k_t_pile⟩, ⟨r_t_views, k_t_views⟩, a_t⟩ := id t_now
  have ec : mi (x + 1) 3 = nI n := by rw [show (3 : Nat) = tvF 1 from rfl, tv_0 hA (by decide) (by omega), hn]
  have z := Fr1.rf (x + 1) mi
  have c1 : (1 : Int32).toNatClampNeg = 1 := by decide
  have c2 : (2 : Int32).toNatClampNeg = 2 := by decide
  have c3 : (3 : Int32).toNatClampNeg = 3 := by decide
  have c4 : (4 : Int32).toNatClampNeg = 4 := by decide
  refine mw_aload_n dX6_set_0 rfl ?_
  refine mw_iload_n dX6_set_1 rfl ?_
  refine mw_cVI (g := fX6_isAttic) dX6_set_2 ml_X6_63 mfX6_isAttic (ok_X6_isAttic hX ec) (by assumption) rfl rfl (Nat.le_of_ble_eq_true rfl) ⟨by decide, by decide⟩ ⟨by decide, by decide⟩ ?_
  refine mw_if_neB (tgt := 11) dX6_set_5 (by decide) (fun h5 => ?_) (fun h5 => ?_)
  · skip
    obtain ⟨a, han, rfl⟩ := inAt h5 hn8
    have hka := (a_t a (by omega)).2
    have ecl : (nI a).toNatClampNeg = a := nI_clamp (by omega)
    have eq1 := tv_A (a := a) (f := 1) hA (by decide) (by omega)
    have eq2 := tv_A (a := a) (f := 2) hA (by decide) (by omega)
    have eq3 := tv_A (a := a) (f := 3) hA (by decide) (by omega)
    have eq4 := tv_A (a := a) (f := 4) hA (by decide) (by omega)
    refine mw_aload_n dX6_set_11 rfl ?_
    refine mw_getr dX6_set_12 fl_X6_10 rfl (by assumption) (by assumption) ?_
    refine mw_getr dX6_set_15 fl_X6_66 rfl (by assumption) (by assumption) ?_
    refine mw_iload_n dX6_set_18 rfl ?_
    refine mw_aldK (k := a) dX6_set_19 (by assumption) (by decide) (rfl) (by omega) (by decide) ((a_t a (by omega)).1) ?_
    refine mw_astore dX6_set_20 (by decide) ?_
    refine mw_ldc dX6_set_22 cn_X6_58 ?_
    refine mw_istore dX6_set_24 (by decide) ?_
    refine mw_iload_n dX6_set_26 rfl ?_
    refine mw_iconst (v := 1) dX6_set_27 (by decide) ?_
    refine mw_icmp_ne (tgt := 54) dX6_set_28 (by decide) (fun h28 => ?_) (fun h28 => ?_)
    · skip
      refine mw_iload_n dX6_set_54 rfl ?_
      refine mw_iconst (v := 2) dX6_set_55 (by decide) ?_
      refine mw_icmp_ne (tgt := 85) dX6_set_56 (by decide) (fun h56 => ?_) (fun h56 => ?_)
      · skip
        refine mw_iload_n dX6_set_85 rfl ?_
        refine mw_iconst (v := 3) dX6_set_86 (by decide) ?_
        refine mw_icmp_ne (tgt := 117) dX6_set_87 (by decide) (fun h87 => ?_) (fun h87 => ?_)
        · skip
          refine mw_iload_n dX6_set_117 rfl ?_
          refine mw_iconst (v := 4) dX6_set_118 (by decide) ?_
          refine mw_icmp_ne (tgt := 146) dX6_set_119 (by decide) (fun h119 => ?_) (fun h119 => ?_)
          · skip
            refine mw_iload dX6_set_146 rfl ?_
            exact mw_iret dX6_set_148 rfl (by decide) (by decide) (by
  rw [sSet, if_pos h5, ecl]
  first
  | (subst h28; rw [if_pos (by grind), c1]; exact ⟨by rw [eq1], rfl, tv_upA (by omega) (by decide) hA, z.up (by omega)⟩)
  | (subst h56; rw [if_pos (by grind), c2]; exact ⟨by rw [eq2], rfl, tv_upA (by omega) (by decide) hA, z.up (by omega)⟩)
  | (subst h87; rw [if_pos (by grind), c3]; exact ⟨by rw [eq3], rfl, tv_upA (by omega) (by decide) hA, z.up (by omega)⟩)
  | (subst h119; rw [if_pos (by grind), c4]; exact ⟨by rw [eq4], rfl, tv_upA (by omega) (by decide) hA, z.up (by omega)⟩)
  | (rw [if_neg (by grind)]; exact ⟨rfl, rfl, hA, z⟩))
          · skip
            refine mw_iload_n dX6_set_122 rfl ?_
            refine mw_iconst (v := 0) dX6_set_123 (by decide) ?_
            refine mw_sipush (v := 9999) dX6_set_124 (by decide) ?_
            refine mw_cSI (g := fX6_within) dX6_set_127 ml_X6_50 mfX6_within (ok_X6_within) rfl rfl (Nat.le_of_ble_eq_true rfl) ⟨by decide, by decide⟩ ⟨by decide, by decide⟩ ?_
            refine mw_if_eqB (tgt := 146) dX6_set_130 (by decide) (fun h130 => ?_) (fun h130 => ?_)
            · skip
              refine mw_iload dX6_set_146 rfl ?_
              exact mw_iret dX6_set_148 rfl (by decide) (by decide) (by
  rw [sSet, if_pos h5, ecl]
  first
  | (subst h28; rw [if_pos (by grind), c1]; exact ⟨by rw [eq1], rfl, tv_upA (by omega) (by decide) hA, z.up (by omega)⟩)
  | (subst h56; rw [if_pos (by grind), c2]; exact ⟨by rw [eq2], rfl, tv_upA (by omega) (by decide) hA, z.up (by omega)⟩)
  | (subst h87; rw [if_pos (by grind), c3]; exact ⟨by rw [eq3], rfl, tv_upA (by omega) (by decide) hA, z.up (by omega)⟩)
  | (subst h119; rw [if_pos (by grind), c4]; exact ⟨by rw [eq4], rfl, tv_upA (by omega) (by decide) hA, z.up (by omega)⟩)
  | (rw [if_neg (by grind)]; exact ⟨rfl, rfl, hA, z⟩))
            · skip
              refine mw_aload dX6_set_133 rfl ?_
              refine mw_geti dX6_set_135 fl_X6_85 rfl (by assumption) ?_
              refine mw_istore dX6_set_138 (by decide) ?_
              refine mw_aload dX6_set_140 rfl ?_
              refine mw_iload_n dX6_set_142 rfl ?_
              refine mw_puti dX6_set_143 fl_X6_85 ft_0_4 rfl (rfl) rfl (by assumption) ?_
              refine mw_iload dX6_set_146 rfl ?_
              exact mw_iret dX6_set_148 rfl (by decide) (by decide) (by
  rw [sSet, if_pos h5, ecl]
  first
  | (subst h28; rw [if_pos (by grind), c1]; exact ⟨by rw [eq1], rfl, tv_upA (by omega) (by decide) hA, z.up (by omega)⟩)
  | (subst h56; rw [if_pos (by grind), c2]; exact ⟨by rw [eq2], rfl, tv_upA (by omega) (by decide) hA, z.up (by omega)⟩)
  | (subst h87; rw [if_pos (by grind), c3]; exact ⟨by rw [eq3], rfl, tv_upA (by omega) (by decide) hA, z.up (by omega)⟩)
  | (subst h119; rw [if_pos (by grind), c4]; exact ⟨by rw [eq4], rfl, tv_upA (by omega) (by decide) hA, z.up (by omega)⟩)
  | (rw [if_neg (by grind)]; exact ⟨rfl, rfl, hA, z⟩))
        · skip
          refine mw_iload_n dX6_set_90 rfl ?_
          refine mw_iconst (v := 0) dX6_set_91 (by decide) ?_
          refine mw_sipush (v := 9999) dX6_set_92 (by decide) ?_
          refine mw_cSI (g := fX6_within) dX6_set_95 ml_X6_50 mfX6_within (ok_X6_within) rfl rfl (Nat.le_of_ble_eq_true rfl) ⟨by decide, by decide⟩ ⟨by decide, by decide⟩ ?_
          refine mw_if_eqB (tgt := 117) dX6_set_98 (by decide) (fun h98 => ?_) (fun h98 => ?_)
          · skip
            refine mw_iload_n dX6_set_117 rfl ?_
            refine mw_iconst (v := 4) dX6_set_118 (by decide) ?_
            refine mw_icmp_ne (tgt := 146) dX6_set_119 (by decide) (fun h119 => ?_) (fun h119 => ?_)
            · skip
              refine mw_iload dX6_set_146 rfl ?_
              exact mw_iret dX6_set_148 rfl (by decide) (by decide) (by
  rw [sSet, if_pos h5, ecl]
  first
  | (subst h28; rw [if_pos (by grind), c1]; exact ⟨by rw [eq1], rfl, tv_upA (by omega) (by decide) hA, z.up (by omega)⟩)
  | (subst h56; rw [if_pos (by grind), c2]; exact ⟨by rw [eq2], rfl, tv_upA (by omega) (by decide) hA, z.up (by omega)⟩)
  | (subst h87; rw [if_pos (by grind), c3]; exact ⟨by rw [eq3], rfl, tv_upA (by omega) (by decide) hA, z.up (by omega)⟩)
  | (subst h119; rw [if_pos (by grind), c4]; exact ⟨by rw [eq4], rfl, tv_upA (by omega) (by decide) hA, z.up (by omega)⟩)
  | (rw [if_neg (by grind)]; exact ⟨rfl, rfl, hA, z⟩))
            · skip
              refine mw_iload_n dX6_set_122 rfl ?_
              refine mw_iconst (v := 0) dX6_set_123 (by decide) ?_
              refine mw_sipush (v := 9999) dX6_set_124 (by decide) ?_
              refine mw_cSI (g := fX6_within) dX6_set_127 ml_X6_50 mfX6_within (ok_X6_within) rfl rfl (Nat.le_of_ble_eq_true rfl) ⟨by decide, by decide⟩ ⟨by decide, by decide⟩ ?_
              refine mw_if_eqB (tgt := 146) dX6_set_130 (by decide) (fun h130 => ?_) (fun h130 => ?_)
              · skip
                refine mw_iload dX6_set_146 rfl ?_
                exact mw_iret dX6_set_148 rfl (by decide) (by decide) (by
  rw [sSet, if_pos h5, ecl]
  first
  | (subst h28; rw [if_pos (by grind), c1]; exact ⟨by rw [eq1], rfl, tv_upA (by omega) (by decide) hA, z.up (by omega)⟩)
  | (subst h56; rw [if_pos (by grind), c2]; exact ⟨by rw [eq2], rfl, tv_upA (by omega) (by decide) hA, z.up (by omega)⟩)
  | (subst h87; rw [if_pos (by grind), c3]; exact ⟨by rw [eq3], rfl, tv_upA (by omega) (by decide) hA, z.up (by omega)⟩)
  | (subst h119; rw [if_pos (by grind), c4]; exact ⟨by rw [eq4], rfl, tv_upA (by omega) (by decide) hA, z.up (by omega)⟩)
  | (rw [if_neg (by grind)]; exact ⟨rfl, rfl, hA, z⟩))
              · skip
                refine mw_aload dX6_set_133 rfl ?_
                refine mw_geti dX6_set_135 fl_X6_85 rfl (by assumption) ?_
                refine mw_istore dX6_set_138 (by decide) ?_
                refine mw_aload dX6_set_140 rfl ?_
                refine mw_iload_n dX6_set_142 rfl ?_
                refine mw_puti dX6_set_143 fl_X6_85 ft_0_4 rfl (rfl) rfl (by assumption) ?_
                refine mw_iload dX6_set_146 rfl ?_
                exact mw_iret dX6_set_148 rfl (by decide) (by decide) (by
  rw [sSet, if_pos h5, ecl]
  first
  | (subst h28; rw [if_pos (by grind), c1]; exact ⟨by rw [eq1], rfl, tv_upA (by omega) (by decide) hA, z.up (by omega)⟩)
  | (subst h56; rw [if_pos (by grind), c2]; exact ⟨by rw [eq2], rfl, tv_upA (by omega) (by decide) hA, z.up (by omega)⟩)
  | (subst h87; rw [if_pos (by grind), c3]; exact ⟨by rw [eq3], rfl, tv_upA (by omega) (by decide) hA, z.up (by omega)⟩)
  | (subst h119; rw [if_pos (by grind), c4]; exact ⟨by rw [eq4], rfl, tv_upA (by omega) (by decide) hA, z.up (by omega)⟩)
  | (rw [if_neg (by grind)]; exact ⟨rfl, rfl, hA, z⟩))
          · skip
            refine mw_aload dX6_set_101 rfl ?_
            refine mw_geti dX6_set_103 fl_X6_82 rfl (by assumption) ?_
            refine mw_istore dX6_set_106 (by decide) ?_
            refine mw_aload dX6_set_108 rfl ?_
            refine mw_iload_n dX6_set_110 rfl ?_
            refine mw_puti dX6_set_111 fl_X6_82 ft_0_3 rfl (rfl) rfl (by assumption) ?_
            refine mw_goto (tgt := 146) dX6_set_114 (by decide) ?_
            refine mw_iload dX6_set_146 rfl ?_
            exact mw_iret dX6_set_148 rfl (by decide) (by decide) (by
  rw [sSet, if_pos h5, ecl]
  first
  | (subst h28; rw [if_pos (by grind), c1]; exact ⟨by rw [eq1], rfl, tv_upA (by omega) (by decide) hA, z.up (by omega)⟩)
  | (subst h56; rw [if_pos (by grind), c2]; exact ⟨by rw [eq2], rfl, tv_upA (by omega) (by decide) hA, z.up (by omega)⟩)
  | (subst h87; rw [if_pos (by grind), c3]; exact ⟨by rw [eq3], rfl, tv_upA (by omega) (by decide) hA, z.up (by omega)⟩)
  | (subst h119; rw [if_pos (by grind), c4]; exact ⟨by rw [eq4], rfl, tv_upA (by omega) (by decide) hA, z.up (by omega)⟩)
  | (rw [if_neg (by grind)]; exact ⟨rfl, rfl, hA, z⟩))
      · skip
        refine mw_iload_n dX6_set_59 rfl ?_
        refine mw_iconst (v := 1) dX6_set_60 (by decide) ?_
        refine mw_bipush (v := 12) dX6_set_61 (by decide) ?_
        refine mw_cSI (g := fX6_within) dX6_set_63 ml_X6_50 mfX6_within (ok_X6_within) rfl rfl (Nat.le_of_ble_eq_true rfl) ⟨by decide, by decide⟩ ⟨by decide, by decide⟩ ?_
        refine mw_if_eqB (tgt := 85) dX6_set_66 (by decide) (fun h66 => ?_) (fun h66 => ?_)
        · skip
          refine mw_iload_n dX6_set_85 rfl ?_
          refine mw_iconst (v := 3) dX6_set_86 (by decide) ?_
          refine mw_icmp_ne (tgt := 117) dX6_set_87 (by decide) (fun h87 => ?_) (fun h87 => ?_)
          · skip
            refine mw_iload_n dX6_set_117 rfl ?_
            refine mw_iconst (v := 4) dX6_set_118 (by decide) ?_
            refine mw_icmp_ne (tgt := 146) dX6_set_119 (by decide) (fun h119 => ?_) (fun h119 => ?_)
            · skip
              refine mw_iload dX6_set_146 rfl ?_
              exact mw_iret dX6_set_148 rfl (by decide) (by decide) (by
  rw [sSet, if_pos h5, ecl]
  first
  | (subst h28; rw [if_pos (by grind), c1]; exact ⟨by rw [eq1], rfl, tv_upA (by omega) (by decide) hA, z.up (by omega)⟩)
  | (subst h56; rw [if_pos (by grind), c2]; exact ⟨by rw [eq2], rfl, tv_upA (by omega) (by decide) hA, z.up (by omega)⟩)
  | (subst h87; rw [if_pos (by grind), c3]; exact ⟨by rw [eq3], rfl, tv_upA (by omega) (by decide) hA, z.up (by omega)⟩)
  | (subst h119; rw [if_pos (by grind), c4]; exact ⟨by rw [eq4], rfl, tv_upA (by omega) (by decide) hA, z.up (by omega)⟩)
  | (rw [if_neg (by grind)]; exact ⟨rfl, rfl, hA, z⟩))
            · skip
              refine mw_iload_n dX6_set_122 rfl ?_
              refine mw_iconst (v := 0) dX6_set_123 (by decide) ?_
              refine mw_sipush (v := 9999) dX6_set_124 (by decide) ?_
              refine mw_cSI (g := fX6_within) dX6_set_127 ml_X6_50 mfX6_within (ok_X6_within) rfl rfl (Nat.le_of_ble_eq_true rfl) ⟨by decide, by decide⟩ ⟨by decide, by decide⟩ ?_
              refine mw_if_eqB (tgt := 146) dX6_set_130 (by decide) (fun h130 => ?_) (fun h130 => ?_)
              · skip
                refine mw_iload dX6_set_146 rfl ?_
                exact mw_iret dX6_set_148 rfl (by decide) (by decide) (by
  rw [sSet, if_pos h5, ecl]
  first
  | (subst h28; rw [if_pos (by grind), c1]; exact ⟨by rw [eq1], rfl, tv_upA (by omega) (by decide) hA, z.up (by omega)⟩)
  | (subst h56; rw [if_pos (by grind), c2]; exact ⟨by rw [eq2], rfl, tv_upA (by omega) (by decide) hA, z.up (by omega)⟩)
  | (subst h87; rw [if_pos (by grind), c3]; exact ⟨by rw [eq3], rfl, tv_upA (by omega) (by decide) hA, z.up (by omega)⟩)
  | (subst h119; rw [if_pos (by grind), c4]; exact ⟨by rw [eq4], rfl, tv_upA (by omega) (by decide) hA, z.up (by omega)⟩)
  | (rw [if_neg (by grind)]; exact ⟨rfl, rfl, hA, z⟩))
              · skip
                refine mw_aload dX6_set_133 rfl ?_
                refine mw_geti dX6_set_135 fl_X6_85 rfl (by assumption) ?_
                refine mw_istore dX6_set_138 (by decide) ?_
                refine mw_aload dX6_set_140 rfl ?_
                refine mw_iload_n dX6_set_142 rfl ?_
                refine mw_puti dX6_set_143 fl_X6_85 ft_0_4 rfl (rfl) rfl (by assumption) ?_
                refine mw_iload dX6_set_146 rfl ?_
                exact mw_iret dX6_set_148 rfl (by decide) (by decide) (by
  rw [sSet, if_pos h5, ecl]
  first
  | (subst h28; rw [if_pos (by grind), c1]; exact ⟨by rw [eq1], rfl, tv_upA (by omega) (by decide) hA, z.up (by omega)⟩)
  | (subst h56; rw [if_pos (by grind), c2]; exact ⟨by rw [eq2], rfl, tv_upA (by omega) (by decide) hA, z.up (by omega)⟩)
  | (subst h87; rw [if_pos (by grind), c3]; exact ⟨by rw [eq3], rfl, tv_upA (by omega) (by decide) hA, z.up (by omega)⟩)
  | (subst h119; rw [if_pos (by grind), c4]; exact ⟨by rw [eq4], rfl, tv_upA (by omega) (by decide) hA, z.up (by omega)⟩)
  | (rw [if_neg (by grind)]; exact ⟨rfl, rfl, hA, z⟩))
          · skip
            refine mw_iload_n dX6_set_90 rfl ?_
            refine mw_iconst (v := 0) dX6_set_91 (by decide) ?_
            refine mw_sipush (v := 9999) dX6_set_92 (by decide) ?_
            refine mw_cSI (g := fX6_within) dX6_set_95 ml_X6_50 mfX6_within (ok_X6_within) rfl rfl (Nat.le_of_ble_eq_true rfl) ⟨by decide, by decide⟩ ⟨by decide, by decide⟩ ?_
            refine mw_if_eqB (tgt := 117) dX6_set_98 (by decide) (fun h98 => ?_) (fun h98 => ?_)
            · skip
              refine mw_iload_n dX6_set_117 rfl ?_
              refine mw_iconst (v := 4) dX6_set_118 (by decide) ?_
              refine mw_icmp_ne (tgt := 146) dX6_set_119 (by decide) (fun h119 => ?_) (fun h119 => ?_)
              · skip
                refine mw_iload dX6_set_146 rfl ?_
                exact mw_iret dX6_set_148 rfl (by decide) (by decide) (by
  rw [sSet, if_pos h5, ecl]
  first
  | (subst h28; rw [if_pos (by grind), c1]; exact ⟨by rw [eq1], rfl, tv_upA (by omega) (by decide) hA, z.up (by omega)⟩)
  | (subst h56; rw [if_pos (by grind), c2]; exact ⟨by rw [eq2], rfl, tv_upA (by omega) (by decide) hA, z.up (by omega)⟩)
  | (subst h87; rw [if_pos (by grind), c3]; exact ⟨by rw [eq3], rfl, tv_upA (by omega) (by decide) hA, z.up (by omega)⟩)
  | (subst h119; rw [if_pos (by grind), c4]; exact ⟨by rw [eq4], rfl, tv_upA (by omega) (by decide) hA, z.up (by omega)⟩)
  | (rw [if_neg (by grind)]; exact ⟨rfl, rfl, hA, z⟩))
              · skip
                refine mw_iload_n dX6_set_122 rfl ?_
                refine mw_iconst (v := 0) dX6_set_123 (by decide) ?_
                refine mw_sipush (v := 9999) dX6_set_124 (by decide) ?_
                refine mw_cSI (g := fX6_within) dX6_set_127 ml_X6_50 mfX6_within (ok_X6_within) rfl rfl (Nat.le_of_ble_eq_true rfl) ⟨by decide, by decide⟩ ⟨by decide, by decide⟩ ?_
                refine mw_if_eqB (tgt := 146) dX6_set_130 (by decide) (fun h130 => ?_) (fun h130 => ?_)
                · skip
                  refine mw_iload dX6_set_146 rfl ?_
                  exact mw_iret dX6_set_148 rfl (by decide) (by decide) (by
  rw [sSet, if_pos h5, ecl]
  first
  | (subst h28; rw [if_pos (by grind), c1]; exact ⟨by rw [eq1], rfl, tv_upA (by omega) (by decide) hA, z.up (by omega)⟩)
  | (subst h56; rw [if_pos (by grind), c2]; exact ⟨by rw [eq2], rfl, tv_upA (by omega) (by decide) hA, z.up (by omega)⟩)
  | (subst h87; rw [if_pos (by grind), c3]; exact ⟨by rw [eq3], rfl, tv_upA (by omega) (by decide) hA, z.up (by omega)⟩)
  | (subst h119; rw [if_pos (by grind), c4]; exact ⟨by rw [eq4], rfl, tv_upA (by omega) (by decide) hA, z.up (by omega)⟩)
  | (rw [if_neg (by grind)]; exact ⟨rfl, rfl, hA, z⟩))
                · skip
                  refine mw_aload dX6_set_133 rfl ?_
                  refine mw_geti dX6_set_135 fl_X6_85 rfl (by assumption) ?_
                  refine mw_istore dX6_set_138 (by decide) ?_
                  refine mw_aload dX6_set_140 rfl ?_
                  refine mw_iload_n dX6_set_142 rfl ?_
                  refine mw_puti dX6_set_143 fl_X6_85 ft_0_4 rfl (rfl) rfl (by assumption) ?_
                  refine mw_iload dX6_set_146 rfl ?_
                  exact mw_iret dX6_set_148 rfl (by decide) (by decide) (by
  rw [sSet, if_pos h5, ecl]
  first
  | (subst h28; rw [if_pos (by grind), c1]; exact ⟨by rw [eq1], rfl, tv_upA (by omega) (by decide) hA, z.up (by omega)⟩)
  | (subst h56; rw [if_pos (by grind), c2]; exact ⟨by rw [eq2], rfl, tv_upA (by omega) (by decide) hA, z.up (by omega)⟩)
  | (subst h87; rw [if_pos (by grind), c3]; exact ⟨by rw [eq3], rfl, tv_upA (by omega) (by decide) hA, z.up (by omega)⟩)
  | (subst h119; rw [if_pos (by grind), c4]; exact ⟨by rw [eq4], rfl, tv_upA (by omega) (by decide) hA, z.up (by omega)⟩)
  | (rw [if_neg (by grind)]; exact ⟨rfl, rfl, hA, z⟩))
            · skip
              refine mw_aload dX6_set_101 rfl ?_
              refine mw_geti dX6_set_103 fl_X6_82 rfl (by assumption) ?_
              refine mw_istore dX6_set_106 (by decide) ?_
              refine mw_aload dX6_set_108 rfl ?_
              refine mw_iload_n dX6_set_110 rfl ?_
              refine mw_puti dX6_set_111 fl_X6_82 ft_0_3 rfl (rfl) rfl (by assumption) ?_
              refine mw_goto (tgt := 146) dX6_set_114 (by decide) ?_
              refine mw_iload dX6_set_146 rfl ?_
              exact mw_iret dX6_set_148 rfl (by decide) (by decide) (by
  rw [sSet, if_pos h5, ecl]
  first
  | (subst h28; rw [if_pos (by grind), c1]; exact ⟨by rw [eq1], rfl, tv_upA (by omega) (by decide) hA, z.up (by omega)⟩)
  | (subst h56; rw [if_pos (by grind), c2]; exact ⟨by rw [eq2], rfl, tv_upA (by omega) (by decide) hA, z.up (by omega)⟩)
  | (subst h87; rw [if_pos (by grind), c3]; exact ⟨by rw [eq3], rfl, tv_upA (by omega) (by decide) hA, z.up (by omega)⟩)
  | (subst h119; rw [if_pos (by grind), c4]; exact ⟨by rw [eq4], rfl, tv_upA (by omega) (by decide) hA, z.up (by omega)⟩)
  | (rw [if_neg (by grind)]; exact ⟨rfl, rfl, hA, z⟩))
        · skip
          refine mw_aload dX6_set_69 rfl ?_
          refine mw_geti dX6_set_71 fl_X6_79 rfl (by assumption) ?_
          refine mw_istore dX6_set_74 (by decide) ?_
          refine mw_aload dX6_set_76 rfl ?_
          refine mw_iload_n dX6_set_78 rfl ?_
          refine mw_puti dX6_set_79 fl_X6_79 ft_0_2 rfl (rfl) rfl (by assumption) ?_
          refine mw_goto (tgt := 146) dX6_set_82 (by decide) ?_
          refine mw_iload dX6_set_146 rfl ?_
          exact mw_iret dX6_set_148 rfl (by decide) (by decide) (by
  rw [sSet, if_pos h5, ecl]
  first
  | (subst h28; rw [if_pos (by grind), c1]; exact ⟨by rw [eq1], rfl, tv_upA (by omega) (by decide) hA, z.up (by omega)⟩)
  | (subst h56; rw [if_pos (by grind), c2]; exact ⟨by rw [eq2], rfl, tv_upA (by omega) (by decide) hA, z.up (by omega)⟩)
  | (subst h87; rw [if_pos (by grind), c3]; exact ⟨by rw [eq3], rfl, tv_upA (by omega) (by decide) hA, z.up (by omega)⟩)
  | (subst h119; rw [if_pos (by grind), c4]; exact ⟨by rw [eq4], rfl, tv_upA (by omega) (by decide) hA, z.up (by omega)⟩)
  | (rw [if_neg (by grind)]; exact ⟨rfl, rfl, hA, z⟩))
    · skip
      refine mw_iload_n dX6_set_31 rfl ?_
      refine mw_cSI (g := fX6_isBearing) dX6_set_32 ml_X6_54 mfX6_isBearing (ok_X6_isBearing) rfl rfl (Nat.le_of_ble_eq_true rfl) ⟨by decide, by decide⟩ ⟨by decide, by decide⟩ ?_
      refine mw_if_eqB (tgt := 54) dX6_set_35 (by decide) (fun h35 => ?_) (fun h35 => ?_)
      · skip
        refine mw_iload_n dX6_set_54 rfl ?_
        refine mw_iconst (v := 2) dX6_set_55 (by decide) ?_
        refine mw_icmp_ne (tgt := 85) dX6_set_56 (by decide) (fun h56 => ?_) (fun h56 => ?_)
        · skip
          refine mw_iload_n dX6_set_85 rfl ?_
          refine mw_iconst (v := 3) dX6_set_86 (by decide) ?_
          refine mw_icmp_ne (tgt := 117) dX6_set_87 (by decide) (fun h87 => ?_) (fun h87 => ?_)
          · skip
            refine mw_iload_n dX6_set_117 rfl ?_
            refine mw_iconst (v := 4) dX6_set_118 (by decide) ?_
            refine mw_icmp_ne (tgt := 146) dX6_set_119 (by decide) (fun h119 => ?_) (fun h119 => ?_)
            · skip
              refine mw_iload dX6_set_146 rfl ?_
              exact mw_iret dX6_set_148 rfl (by decide) (by decide) (by
  rw [sSet, if_pos h5, ecl]
  first
  | (subst h28; rw [if_pos (by grind), c1]; exact ⟨by rw [eq1], rfl, tv_upA (by omega) (by decide) hA, z.up (by omega)⟩)
  | (subst h56; rw [if_pos (by grind), c2]; exact ⟨by rw [eq2], rfl, tv_upA (by omega) (by decide) hA, z.up (by omega)⟩)
  | (subst h87; rw [if_pos (by grind), c3]; exact ⟨by rw [eq3], rfl, tv_upA (by omega) (by decide) hA, z.up (by omega)⟩)
  | (subst h119; rw [if_pos (by grind), c4]; exact ⟨by rw [eq4], rfl, tv_upA (by omega) (by decide) hA, z.up (by omega)⟩)
  | (rw [if_neg (by grind)]; exact ⟨rfl, rfl, hA, z⟩))
            · skip
              refine mw_iload_n dX6_set_122 rfl ?_
              refine mw_iconst (v := 0) dX6_set_123 (by decide) ?_
              refine mw_sipush (v := 9999) dX6_set_124 (by decide) ?_
              refine mw_cSI (g := fX6_within) dX6_set_127 ml_X6_50 mfX6_within (ok_X6_within) rfl rfl (Nat.le_of_ble_eq_true rfl) ⟨by decide, by decide⟩ ⟨by decide, by decide⟩ ?_
              refine mw_if_eqB (tgt := 146) dX6_set_130 (by decide) (fun h130 => ?_) (fun h130 => ?_)
              · skip
                refine mw_iload dX6_set_146 rfl ?_
                exact mw_iret dX6_set_148 rfl (by decide) (by decide) (by
  rw [sSet, if_pos h5, ecl]
  first
  | (subst h28; rw [if_pos (by grind), c1]; exact ⟨by rw [eq1], rfl, tv_upA (by omega) (by decide) hA, z.up (by omega)⟩)
  | (subst h56; rw [if_pos (by grind), c2]; exact ⟨by rw [eq2], rfl, tv_upA (by omega) (by decide) hA, z.up (by omega)⟩)
  | (subst h87; rw [if_pos (by grind), c3]; exact ⟨by rw [eq3], rfl, tv_upA (by omega) (by decide) hA, z.up (by omega)⟩)
  | (subst h119; rw [if_pos (by grind), c4]; exact ⟨by rw [eq4], rfl, tv_upA (by omega) (by decide) hA, z.up (by omega)⟩)
  | (rw [if_neg (by grind)]; exact ⟨rfl, rfl, hA, z⟩))
              · skip
                refine mw_aload dX6_set_133 rfl ?_
                refine mw_geti dX6_set_135 fl_X6_85 rfl (by assumption) ?_
                refine mw_istore dX6_set_138 (by decide) ?_
                refine mw_aload dX6_set_140 rfl ?_
                refine mw_iload_n dX6_set_142 rfl ?_
                refine mw_puti dX6_set_143 fl_X6_85 ft_0_4 rfl (rfl) rfl (by assumption) ?_
                refine mw_iload dX6_set_146 rfl ?_
                exact mw_iret dX6_set_148 rfl (by decide) (by decide) (by
  rw [sSet, if_pos h5, ecl]
  first
  | (subst h28; rw [if_pos (by grind), c1]; exact ⟨by rw [eq1], rfl, tv_upA (by omega) (by decide) hA, z.up (by omega)⟩)
  | (subst h56; rw [if_pos (by grind), c2]; exact ⟨by rw [eq2], rfl, tv_upA (by omega) (by decide) hA, z.up (by omega)⟩)
  | (subst h87; rw [if_pos (by grind), c3]; exact ⟨by rw [eq3], rfl, tv_upA (by omega) (by decide) hA, z.up (by omega)⟩)
  | (subst h119; rw [if_pos (by grind), c4]; exact ⟨by rw [eq4], rfl, tv_upA (by omega) (by decide) hA, z.up (by omega)⟩)
  | (rw [if_neg (by grind)]; exact ⟨rfl, rfl, hA, z⟩))
          · skip
            refine mw_iload_n dX6_set_90 rfl ?_
            refine mw_iconst (v := 0) dX6_set_91 (by decide) ?_
            refine mw_sipush (v := 9999) dX6_set_92 (by decide) ?_
            refine mw_cSI (g := fX6_within) dX6_set_95 ml_X6_50 mfX6_within (ok_X6_within) rfl rfl (Nat.le_of_ble_eq_true rfl) ⟨by decide, by decide⟩ ⟨by decide, by decide⟩ ?_
            refine mw_if_eqB (tgt := 117) dX6_set_98 (by decide) (fun h98 => ?_) (fun h98 => ?_)
            · skip
              refine mw_iload_n dX6_set_117 rfl ?_
              refine mw_iconst (v := 4) dX6_set_118 (by decide) ?_
              refine mw_icmp_ne (tgt := 146) dX6_set_119 (by decide) (fun h119 => ?_) (fun h119 => ?_)
              · skip
                refine mw_iload dX6_set_146 rfl ?_
                exact mw_iret dX6_set_148 rfl (by decide) (by decide) (by
  rw [sSet, if_pos h5, ecl]
  first
  | (subst h28; rw [if_pos (by grind), c1]; exact ⟨by rw [eq1], rfl, tv_upA (by omega) (by decide) hA, z.up (by omega)⟩)
  | (subst h56; rw [if_pos (by grind), c2]; exact ⟨by rw [eq2], rfl, tv_upA (by omega) (by decide) hA, z.up (by omega)⟩)
  | (subst h87; rw [if_pos (by grind), c3]; exact ⟨by rw [eq3], rfl, tv_upA (by omega) (by decide) hA, z.up (by omega)⟩)
  | (subst h119; rw [if_pos (by grind), c4]; exact ⟨by rw [eq4], rfl, tv_upA (by omega) (by decide) hA, z.up (by omega)⟩)
  | (rw [if_neg (by grind)]; exact ⟨rfl, rfl, hA, z⟩))
              · skip
                refine mw_iload_n dX6_set_122 rfl ?_
                refine mw_iconst (v := 0) dX6_set_123 (by decide) ?_
                refine mw_sipush (v := 9999) dX6_set_124 (by decide) ?_
                refine mw_cSI (g := fX6_within) dX6_set_127 ml_X6_50 mfX6_within (ok_X6_within) rfl rfl (Nat.le_of_ble_eq_true rfl) ⟨by decide, by decide⟩ ⟨by decide, by decide⟩ ?_
                refine mw_if_eqB (tgt := 146) dX6_set_130 (by decide) (fun h130 => ?_) (fun h130 => ?_)
                · skip
                  refine mw_iload dX6_set_146 rfl ?_
                  exact mw_iret dX6_set_148 rfl (by decide) (by decide) (by
  rw [sSet, if_pos h5, ecl]
  first
  | (subst h28; rw [if_pos (by grind), c1]; exact ⟨by rw [eq1], rfl, tv_upA (by omega) (by decide) hA, z.up (by omega)⟩)
  | (subst h56; rw [if_pos (by grind), c2]; exact ⟨by rw [eq2], rfl, tv_upA (by omega) (by decide) hA, z.up (by omega)⟩)
  | (subst h87; rw [if_pos (by grind), c3]; exact ⟨by rw [eq3], rfl, tv_upA (by omega) (by decide) hA, z.up (by omega)⟩)
  | (subst h119; rw [if_pos (by grind), c4]; exact ⟨by rw [eq4], rfl, tv_upA (by omega) (by decide) hA, z.up (by omega)⟩)
  | (rw [if_neg (by grind)]; exact ⟨rfl, rfl, hA, z⟩))
                · skip
                  refine mw_aload dX6_set_133 rfl ?_
                  refine mw_geti dX6_set_135 fl_X6_85 rfl (by assumption) ?_
                  refine mw_istore dX6_set_138 (by decide) ?_
                  refine mw_aload dX6_set_140 rfl ?_
                  refine mw_iload_n dX6_set_142 rfl ?_
                  refine mw_puti dX6_set_143 fl_X6_85 ft_0_4 rfl (rfl) rfl (by assumption) ?_
                  refine mw_iload dX6_set_146 rfl ?_
                  exact mw_iret dX6_set_148 rfl (by decide) (by decide) (by
  rw [sSet, if_pos h5, ecl]
  first
  | (subst h28; rw [if_pos (by grind), c1]; exact ⟨by rw [eq1], rfl, tv_upA (by omega) (by decide) hA, z.up (by omega)⟩)
  | (subst h56; rw [if_pos (by grind), c2]; exact ⟨by rw [eq2], rfl, tv_upA (by omega) (by decide) hA, z.up (by omega)⟩)
  | (subst h87; rw [if_pos (by grind), c3]; exact ⟨by rw [eq3], rfl, tv_upA (by omega) (by decide) hA, z.up (by omega)⟩)
  | (subst h119; rw [if_pos (by grind), c4]; exact ⟨by rw [eq4], rfl, tv_upA (by omega) (by decide) hA, z.up (by omega)⟩)
  | (rw [if_neg (by grind)]; exact ⟨rfl, rfl, hA, z⟩))
            · skip
              refine mw_aload dX6_set_101 rfl ?_
              refine mw_geti dX6_set_103 fl_X6_82 rfl (by assumption) ?_
              refine mw_istore dX6_set_106 (by decide) ?_
              refine mw_aload dX6_set_108 rfl ?_
              refine mw_iload_n dX6_set_110 rfl ?_
              refine mw_puti dX6_set_111 fl_X6_82 ft_0_3 rfl (rfl) rfl (by assumption) ?_
              refine mw_goto (tgt := 146) dX6_set_114 (by decide) ?_
              refine mw_iload dX6_set_146 rfl ?_
              exact mw_iret dX6_set_148 rfl (by decide) (by decide) (by
  rw [sSet, if_pos h5, ecl]
  first
  | (subst h28; rw [if_pos (by grind), c1]; exact ⟨by rw [eq1], rfl, tv_upA (by omega) (by decide) hA, z.up (by omega)⟩)
  | (subst h56; rw [if_pos (by grind), c2]; exact ⟨by rw [eq2], rfl, tv_upA (by omega) (by decide) hA, z.up (by omega)⟩)
  | (subst h87; rw [if_pos (by grind), c3]; exact ⟨by rw [eq3], rfl, tv_upA (by omega) (by decide) hA, z.up (by omega)⟩)
  | (subst h119; rw [if_pos (by grind), c4]; exact ⟨by rw [eq4], rfl, tv_upA (by omega) (by decide) hA, z.up (by omega)⟩)
  | (rw [if_neg (by grind)]; exact ⟨rfl, rfl, hA, z⟩))
        · skip
          refine mw_iload_n dX6_set_59 rfl ?_
          refine mw_iconst (v := 1) dX6_set_60 (by decide) ?_
          refine mw_bipush (v := 12) dX6_set_61 (by decide) ?_
          refine mw_cSI (g := fX6_within) dX6_set_63 ml_X6_50 mfX6_within (ok_X6_within) rfl rfl (Nat.le_of_ble_eq_true rfl) ⟨by decide, by decide⟩ ⟨by decide, by decide⟩ ?_
          refine mw_if_eqB (tgt := 85) dX6_set_66 (by decide) (fun h66 => ?_) (fun h66 => ?_)
          · skip
            refine mw_iload_n dX6_set_85 rfl ?_
            refine mw_iconst (v := 3) dX6_set_86 (by decide) ?_
            refine mw_icmp_ne (tgt := 117) dX6_set_87 (by decide) (fun h87 => ?_) (fun h87 => ?_)
            · skip
              refine mw_iload_n dX6_set_117 rfl ?_
              refine mw_iconst (v := 4) dX6_set_118 (by decide) ?_
              refine mw_icmp_ne (tgt := 146) dX6_set_119 (by decide) (fun h119 => ?_) (fun h119 => ?_)
              · skip
                refine mw_iload dX6_set_146 rfl ?_
                exact mw_iret dX6_set_148 rfl (by decide) (by decide) (by
  rw [sSet, if_pos h5, ecl]
  first
  | (subst h28; rw [if_pos (by grind), c1]; exact ⟨by rw [eq1], rfl, tv_upA (by omega) (by decide) hA, z.up (by omega)⟩)
  | (subst h56; rw [if_pos (by grind), c2]; exact ⟨by rw [eq2], rfl, tv_upA (by omega) (by decide) hA, z.up (by omega)⟩)
  | (subst h87; rw [if_pos (by grind), c3]; exact ⟨by rw [eq3], rfl, tv_upA (by omega) (by decide) hA, z.up (by omega)⟩)
  | (subst h119; rw [if_pos (by grind), c4]; exact ⟨by rw [eq4], rfl, tv_upA (by omega) (by decide) hA, z.up (by omega)⟩)
  | (rw [if_neg (by grind)]; exact ⟨rfl, rfl, hA, z⟩))
              · skip
                refine mw_iload_n dX6_set_122 rfl ?_
                refine mw_iconst (v := 0) dX6_set_123 (by decide) ?_
                refine mw_sipush (v := 9999) dX6_set_124 (by decide) ?_
                refine mw_cSI (g := fX6_within) dX6_set_127 ml_X6_50 mfX6_within (ok_X6_within) rfl rfl (Nat.le_of_ble_eq_true rfl) ⟨by decide, by decide⟩ ⟨by decide, by decide⟩ ?_
                refine mw_if_eqB (tgt := 146) dX6_set_130 (by decide) (fun h130 => ?_) (fun h130 => ?_)
                · skip
                  refine mw_iload dX6_set_146 rfl ?_
                  exact mw_iret dX6_set_148 rfl (by decide) (by decide) (by
  rw [sSet, if_pos h5, ecl]
  first
  | (subst h28; rw [if_pos (by grind), c1]; exact ⟨by rw [eq1], rfl, tv_upA (by omega) (by decide) hA, z.up (by omega)⟩)
  | (subst h56; rw [if_pos (by grind), c2]; exact ⟨by rw [eq2], rfl, tv_upA (by omega) (by decide) hA, z.up (by omega)⟩)
  | (subst h87; rw [if_pos (by grind), c3]; exact ⟨by rw [eq3], rfl, tv_upA (by omega) (by decide) hA, z.up (by omega)⟩)
  | (subst h119; rw [if_pos (by grind), c4]; exact ⟨by rw [eq4], rfl, tv_upA (by omega) (by decide) hA, z.up (by omega)⟩)
  | (rw [if_neg (by grind)]; exact ⟨rfl, rfl, hA, z⟩))
                · skip
                  refine mw_aload dX6_set_133 rfl ?_
                  refine mw_geti dX6_set_135 fl_X6_85 rfl (by assumption) ?_
                  refine mw_istore dX6_set_138 (by decide) ?_
                  refine mw_aload dX6_set_140 rfl ?_
                  refine mw_iload_n dX6_set_142 rfl ?_
                  refine mw_puti dX6_set_143 fl_X6_85 ft_0_4 rfl (rfl) rfl (by assumption) ?_
                  refine mw_iload dX6_set_146 rfl ?_
                  exact mw_iret dX6_set_148 rfl (by decide) (by decide) (by
  rw [sSet, if_pos h5, ecl]
  first
  | (subst h28; rw [if_pos (by grind), c1]; exact ⟨by rw [eq1], rfl, tv_upA (by omega) (by decide) hA, z.up (by omega)⟩)
  | (subst h56; rw [if_pos (by grind), c2]; exact ⟨by rw [eq2], rfl, tv_upA (by omega) (by decide) hA, z.up (by omega)⟩)
  | (subst h87; rw [if_pos (by grind), c3]; exact ⟨by rw [eq3], rfl, tv_upA (by omega) (by decide) hA, z.up (by omega)⟩)
  | (subst h119; rw [if_pos (by grind), c4]; exact ⟨by rw [eq4], rfl, tv_upA (by omega) (by decide) hA, z.up (by omega)⟩)
  | (rw [if_neg (by grind)]; exact ⟨rfl, rfl, hA, z⟩))
            · skip
              refine mw_iload_n dX6_set_90 rfl ?_
              refine mw_iconst (v := 0) dX6_set_91 (by decide) ?_
              refine mw_sipush (v := 9999) dX6_set_92 (by decide) ?_
              refine mw_cSI (g := fX6_within) dX6_set_95 ml_X6_50 mfX6_within (ok_X6_within) rfl rfl (Nat.le_of_ble_eq_true rfl) ⟨by decide, by decide⟩ ⟨by decide, by decide⟩ ?_
              refine mw_if_eqB (tgt := 117) dX6_set_98 (by decide) (fun h98 => ?_) (fun h98 => ?_)
              · skip
                refine mw_iload_n dX6_set_117 rfl ?_
                refine mw_iconst (v := 4) dX6_set_118 (by decide) ?_
                refine mw_icmp_ne (tgt := 146) dX6_set_119 (by decide) (fun h119 => ?_) (fun h119 => ?_)
                · skip
                  refine mw_iload dX6_set_146 rfl ?_
                  exact mw_iret dX6_set_148 rfl (by decide) (by decide) (by
  rw [sSet, if_pos h5, ecl]
  first
  | (subst h28; rw [if_pos (by grind), c1]; exact ⟨by rw [eq1], rfl, tv_upA (by omega) (by decide) hA, z.up (by omega)⟩)
  | (subst h56; rw [if_pos (by grind), c2]; exact ⟨by rw [eq2], rfl, tv_upA (by omega) (by decide) hA, z.up (by omega)⟩)
  | (subst h87; rw [if_pos (by grind), c3]; exact ⟨by rw [eq3], rfl, tv_upA (by omega) (by decide) hA, z.up (by omega)⟩)
  | (subst h119; rw [if_pos (by grind), c4]; exact ⟨by rw [eq4], rfl, tv_upA (by omega) (by decide) hA, z.up (by omega)⟩)
  | (rw [if_neg (by grind)]; exact ⟨rfl, rfl, hA, z⟩))
                · skip
                  refine mw_iload_n dX6_set_122 rfl ?_
                  refine mw_iconst (v := 0) dX6_set_123 (by decide) ?_
                  refine mw_sipush (v := 9999) dX6_set_124 (by decide) ?_
                  refine mw_cSI (g := fX6_within) dX6_set_127 ml_X6_50 mfX6_within (ok_X6_within) rfl rfl (Nat.le_of_ble_eq_true rfl) ⟨by decide, by decide⟩ ⟨by decide, by decide⟩ ?_
                  refine mw_if_eqB (tgt := 146) dX6_set_130 (by decide) (fun h130 => ?_) (fun h130 => ?_)
                  · skip
                    refine mw_iload dX6_set_146 rfl ?_
                    exact mw_iret dX6_set_148 rfl (by decide) (by decide) (by
  rw [sSet, if_pos h5, ecl]
  first
  | (subst h28; rw [if_pos (by grind), c1]; exact ⟨by rw [eq1], rfl, tv_upA (by omega) (by decide) hA, z.up (by omega)⟩)
  | (subst h56; rw [if_pos (by grind), c2]; exact ⟨by rw [eq2], rfl, tv_upA (by omega) (by decide) hA, z.up (by omega)⟩)
  | (subst h87; rw [if_pos (by grind), c3]; exact ⟨by rw [eq3], rfl, tv_upA (by omega) (by decide) hA, z.up (by omega)⟩)
  | (subst h119; rw [if_pos (by grind), c4]; exact ⟨by rw [eq4], rfl, tv_upA (by omega) (by decide) hA, z.up (by omega)⟩)
  | (rw [if_neg (by grind)]; exact ⟨rfl, rfl, hA, z⟩))
                  · skip
                    refine mw_aload dX6_set_133 rfl ?_
                    refine mw_geti dX6_set_135 fl_X6_85 rfl (by assumption) ?_
                    refine mw_istore dX6_set_138 (by decide) ?_
                    refine mw_aload dX6_set_140 rfl ?_
                    refine mw_iload_n dX6_set_142 rfl ?_
                    refine mw_puti dX6_set_143 fl_X6_85 ft_0_4 rfl (rfl) rfl (by assumption) ?_
                    refine mw_iload dX6_set_146 rfl ?_
                    exact mw_iret dX6_set_148 rfl (by decide) (by decide) (by
  rw [sSet, if_pos h5, ecl]
  first
  | (subst h28; rw [if_pos (by grind), c1]; exact ⟨by rw [eq1], rfl, tv_upA (by omega) (by decide) hA, z.up (by omega)⟩)
  | (subst h56; rw [if_pos (by grind), c2]; exact ⟨by rw [eq2], rfl, tv_upA (by omega) (by decide) hA, z.up (by omega)⟩)
  | (subst h87; rw [if_pos (by grind), c3]; exact ⟨by rw [eq3], rfl, tv_upA (by omega) (by decide) hA, z.up (by omega)⟩)
  | (subst h119; rw [if_pos (by grind), c4]; exact ⟨by rw [eq4], rfl, tv_upA (by omega) (by decide) hA, z.up (by omega)⟩)
  | (rw [if_neg (by grind)]; exact ⟨rfl, rfl, hA, z⟩))
              · skip
                refine mw_aload dX6_set_101 rfl ?_
                refine mw_geti dX6_set_103 fl_X6_82 rfl (by assumption) ?_
                refine mw_istore dX6_set_106 (by decide) ?_
                refine mw_aload dX6_set_108 rfl ?_
                refine mw_iload_n dX6_set_110 rfl ?_
                refine mw_puti dX6_set_111 fl_X6_82 ft_0_3 rfl (rfl) rfl (by assumption) ?_
                refine mw_goto (tgt := 146) dX6_set_114 (by decide) ?_
                refine mw_iload dX6_set_146 rfl ?_
                exact mw_iret dX6_set_148 rfl (by decide) (by decide) (by
  rw [sSet, if_pos h5, ecl]
  first
  | (subst h28; rw [if_pos (by grind), c1]; exact ⟨by rw [eq1], rfl, tv_upA (by omega) (by decide) hA, z.up (by omega)⟩)
  | (subst h56; rw [if_pos (by grind), c2]; exact ⟨by rw [eq2], rfl, tv_upA (by omega) (by decide) hA, z.up (by omega)⟩)
  | (subst h87; rw [if_pos (by grind), c3]; exact ⟨by rw [eq3], rfl, tv_upA (by omega) (by decide) hA, z.up (by omega)⟩)
  | (subst h119; rw [if_pos (by grind), c4]; exact ⟨by rw [eq4], rfl, tv_upA (by omega) (by decide) hA, z.up (by omega)⟩)
  | (rw [if_neg (by grind)]; exact ⟨rfl, rfl, hA, z⟩))
          · skip
            refine mw_aload dX6_set_69 rfl ?_
            refine mw_geti dX6_set_71 fl_X6_79 rfl (by assumption) ?_
            refine mw_istore dX6_set_74 (by decide) ?_
            refine mw_aload dX6_set_76 rfl ?_
            refine mw_iload_n dX6_set_78 rfl ?_
            refine mw_puti dX6_set_79 fl_X6_79 ft_0_2 rfl (rfl) rfl (by assumption) ?_
            refine mw_goto (tgt := 146) dX6_set_82 (by decide) ?_
            refine mw_iload dX6_set_146 rfl ?_
            exact mw_iret dX6_set_148 rfl (by decide) (by decide) (by
  rw [sSet, if_pos h5, ecl]
  first
  | (subst h28; rw [if_pos (by grind), c1]; exact ⟨by rw [eq1], rfl, tv_upA (by omega) (by decide) hA, z.up (by omega)⟩)
  | (subst h56; rw [if_pos (by grind), c2]; exact ⟨by rw [eq2], rfl, tv_upA (by omega) (by decide) hA, z.up (by omega)⟩)
  | (subst h87; rw [if_pos (by grind), c3]; exact ⟨by rw [eq3], rfl, tv_upA (by omega) (by decide) hA, z.up (by omega)⟩)
  | (subst h119; rw [if_pos (by grind), c4]; exact ⟨by rw [eq4], rfl, tv_upA (by omega) (by decide) hA, z.up (by omega)⟩)
  | (rw [if_neg (by grind)]; exact ⟨rfl, rfl, hA, z⟩))
      · skip
        refine mw_aload dX6_set_38 rfl ?_
        refine mw_geti dX6_set_40 fl_X6_76 rfl (by assumption) ?_
        refine mw_istore dX6_set_43 (by decide) ?_
        refine mw_aload dX6_set_45 rfl ?_
        refine mw_iload_n dX6_set_47 rfl ?_
        refine mw_puti dX6_set_48 fl_X6_76 ft_0_1 rfl (rfl) rfl (by assumption) ?_
        refine mw_goto (tgt := 146) dX6_set_51 (by decide) ?_
        refine mw_iload dX6_set_146 rfl ?_
        exact mw_iret dX6_set_148 rfl (by decide) (by decide) (by
  rw [sSet, if_pos h5, ecl]
  first
  | (subst h28; rw [if_pos (by grind), c1]; exact ⟨by rw [eq1], rfl, tv_upA (by omega) (by decide) hA, z.up (by omega)⟩)
  | (subst h56; rw [if_pos (by grind), c2]; exact ⟨by rw [eq2], rfl, tv_upA (by omega) (by decide) hA, z.up (by omega)⟩)
  | (subst h87; rw [if_pos (by grind), c3]; exact ⟨by rw [eq3], rfl, tv_upA (by omega) (by decide) hA, z.up (by omega)⟩)
  | (subst h119; rw [if_pos (by grind), c4]; exact ⟨by rw [eq4], rfl, tv_upA (by omega) (by decide) hA, z.up (by omega)⟩)
  | (rw [if_neg (by grind)]; exact ⟨rfl, rfl, hA, z⟩))
  · skip
    refine mw_ldc dX6_set_8 cn_X6_58 ?_
    exact mw_iret dX6_set_10 rfl (by decide) (by decide) (by rw [sSet, if_neg h5]; exact ⟨rfl, rfl, hA, z⟩)
def sStar (A : Nat → Int32) (n : Nat) (v w y : Int32) : Sp := if (0 ≤ v ∧ v ≤ 7) ∧ ((w = 0 ∧ 0 ≤ y ∧ y ≤ 23) ∨ (w = 1 ∧ 0 ≤ y ∧ y ≤ 99)) then (A (10 + 8 * w.toNatClampNeg + v.toNatClampNeg), upd A (10 + 8 * w.toNatClampNeg + v.toNatClampNeg) y, n) else (BADi, A, n)
theorem dX6_star_0 : decode fX6_star.2.1 0 = .ok (.iload_n 1, 1) := by decide +kernel
theorem dX6_star_1 : decode fX6_star.2.1 1 = .ok (.invokestatic 102, 3) := by decide +kernel
theorem dX6_star_4 : decode fX6_star.2.1 4 = .ok (.ifCond .ne 6, 3) := by decide +kernel
theorem dX6_star_7 : decode fX6_star.2.1 7 = .ok (.ldc 58, 2) := by decide +kernel
theorem dX6_star_9 : decode fX6_star.2.1 9 = .ok (.ireturn, 1) := by decide +kernel
theorem dX6_star_10 : decode fX6_star.2.1 10 = .ok (.ldc 58, 2) := by decide +kernel
theorem dX6_star_12 : decode fX6_star.2.1 12 = .ok (.istore 4, 2) := by decide +kernel
theorem dX6_star_14 : decode fX6_star.2.1 14 = .ok (.iload_n 2, 1) := by decide +kernel
theorem dX6_star_15 : decode fX6_star.2.1 15 = .ok (.ifCond .ne 34, 3) := by decide +kernel
theorem dX6_star_18 : decode fX6_star.2.1 18 = .ok (.iload_n 3, 1) := by decide +kernel
theorem dX6_star_19 : decode fX6_star.2.1 19 = .ok (.invokestatic 54, 3) := by decide +kernel
theorem dX6_star_22 : decode fX6_star.2.1 22 = .ok (.ifCond .eq 27, 3) := by decide +kernel
theorem dX6_star_25 : decode fX6_star.2.1 25 = .ok (.aload_n 0, 1) := by decide +kernel
theorem dX6_star_26 : decode fX6_star.2.1 26 = .ok (.getfield 10, 3) := by decide +kernel
theorem dX6_star_29 : decode fX6_star.2.1 29 = .ok (.getfield 105, 3) := by decide +kernel
theorem dX6_star_32 : decode fX6_star.2.1 32 = .ok (.iload_n 1, 1) := by decide +kernel
theorem dX6_star_33 : decode fX6_star.2.1 33 = .ok (.iaload, 1) := by decide +kernel
theorem dX6_star_34 : decode fX6_star.2.1 34 = .ok (.istore 4, 2) := by decide +kernel
theorem dX6_star_36 : decode fX6_star.2.1 36 = .ok (.aload_n 0, 1) := by decide +kernel
theorem dX6_star_37 : decode fX6_star.2.1 37 = .ok (.getfield 10, 3) := by decide +kernel
theorem dX6_star_40 : decode fX6_star.2.1 40 = .ok (.getfield 105, 3) := by decide +kernel
theorem dX6_star_43 : decode fX6_star.2.1 43 = .ok (.iload_n 1, 1) := by decide +kernel
theorem dX6_star_44 : decode fX6_star.2.1 44 = .ok (.iload_n 3, 1) := by decide +kernel
theorem dX6_star_45 : decode fX6_star.2.1 45 = .ok (.iastore, 1) := by decide +kernel
theorem dX6_star_46 : decode fX6_star.2.1 46 = .ok (.goto 39, 3) := by decide +kernel
theorem dX6_star_49 : decode fX6_star.2.1 49 = .ok (.iload_n 2, 1) := by decide +kernel
theorem dX6_star_50 : decode fX6_star.2.1 50 = .ok (.iconst 1, 1) := by decide +kernel
theorem dX6_star_51 : decode fX6_star.2.1 51 = .ok (.if_icmp .ne 34, 3) := by decide +kernel
theorem dX6_star_54 : decode fX6_star.2.1 54 = .ok (.iload_n 3, 1) := by decide +kernel
theorem dX6_star_55 : decode fX6_star.2.1 55 = .ok (.iconst 0, 1) := by decide +kernel
theorem dX6_star_56 : decode fX6_star.2.1 56 = .ok (.bipush 99, 2) := by decide +kernel
theorem dX6_star_58 : decode fX6_star.2.1 58 = .ok (.invokestatic 50, 3) := by decide +kernel
theorem dX6_star_61 : decode fX6_star.2.1 61 = .ok (.ifCond .eq 24, 3) := by decide +kernel
theorem dX6_star_64 : decode fX6_star.2.1 64 = .ok (.aload_n 0, 1) := by decide +kernel
theorem dX6_star_65 : decode fX6_star.2.1 65 = .ok (.getfield 10, 3) := by decide +kernel
theorem dX6_star_68 : decode fX6_star.2.1 68 = .ok (.getfield 108, 3) := by decide +kernel
theorem dX6_star_71 : decode fX6_star.2.1 71 = .ok (.iload_n 1, 1) := by decide +kernel
theorem dX6_star_72 : decode fX6_star.2.1 72 = .ok (.iaload, 1) := by decide +kernel
theorem dX6_star_73 : decode fX6_star.2.1 73 = .ok (.istore 4, 2) := by decide +kernel
theorem dX6_star_75 : decode fX6_star.2.1 75 = .ok (.aload_n 0, 1) := by decide +kernel
theorem dX6_star_76 : decode fX6_star.2.1 76 = .ok (.getfield 10, 3) := by decide +kernel
theorem dX6_star_79 : decode fX6_star.2.1 79 = .ok (.getfield 108, 3) := by decide +kernel
theorem dX6_star_82 : decode fX6_star.2.1 82 = .ok (.iload_n 1, 1) := by decide +kernel
theorem dX6_star_83 : decode fX6_star.2.1 83 = .ok (.iload_n 3, 1) := by decide +kernel
theorem dX6_star_84 : decode fX6_star.2.1 84 = .ok (.iastore, 1) := by decide +kernel
theorem dX6_star_85 : decode fX6_star.2.1 85 = .ok (.iload 4, 2) := by decide +kernel
theorem dX6_star_87 : decode fX6_star.2.1 87 = .ok (.ireturn, 1) := by decide +kernel
set_option maxRecDepth 100000 in
set_option maxHeartbeats 4000000 in
theorem ok_X6_star {X : Xb} {S : Sg} {mi : Mem} {x n : Nat} {A : Nat → Int32} {v w y : Int32} (hX : AsA S x) (hn8 : n ≤ 8) (hA : eqOn (26 + 5 * n) (tv mi (x + 1)) A) (hn : A 1 = nI n) : Ok 2 0 0 fX6_star X [rf X x, .int v, .int w, .int y] S mi (PS S mi x (sStar A n v w y)) := by
  refine Ok.go [some (rf X x), some (.int v), some (.int w), some (.int y), none] (by decide) (by simp [Value.category]) (Nat.le_of_ble_eq_true rfl) rfl ?_
  obtain ⟨k_x, ⟨r_x_now, t_now⟩, ⟨r_x_thought, t_thought⟩, ⟨r_x_image, t_image⟩, ⟨r_x_tape, t_tape⟩, ⟨r_x_sheets, k_x_sheets⟩, ⟨r_x_slots, k_x_slots⟩, ⟨r_x_waiting, k_x_waiting⟩, ⟨r_x_diff, k_x_diff⟩, a_sheets, a_slots⟩ := id hX
  obtain ⟨k_t, ⟨r_t_home, k_t_home⟩, ⟨r_t_price, k_t_price⟩, ⟨r_t_attics, k_t_attics⟩, ⟨r_t_texts, k_t_texts⟩, ⟨r_t_counting, k_t_counting⟩, ⟨r_t_names, k_t_names⟩, ⟨r_t_pile, k_t_pile⟩, ⟨r_t_views, k_t_views⟩, a_t⟩ := id t_now
  have z := Fr1.rf (x + 1) mi
  have c0 : (0 : Int32).toNatClampNeg = 0 := by decide
  have c1 : (1 : Int32).toNatClampNeg = 1 := by decide
  refine mw_iload_n dX6_star_0 rfl ?_
  refine mw_cSI (g := fX6_isStar) dX6_star_1 ml_X6_102 mfX6_isStar (ok_X6_isStar) rfl rfl (Nat.le_of_ble_eq_true rfl) ⟨by decide, by decide⟩ ⟨by decide, by decide⟩ ?_
  refine mw_if_neB (tgt := 10) dX6_star_4 (by decide) (fun h4 => ?_) (fun h4 => ?_)
  · skip
    obtain ⟨a, ha, rfl⟩ := in7 h4
    have ecl : (nI a).toNatClampNeg = a := nI_clamp (by omega)
    have eh := tv_home (k := a) hA ha (by omega)
    have ep := tv_price (k := a) hA ha (by omega)
    refine mw_ldc dX6_star_10 cn_X6_58 ?_
    refine mw_istore dX6_star_12 (by decide) ?_
    refine mw_iload_n dX6_star_14 rfl ?_
    refine mw_if_ne (tgt := 49) dX6_star_15 (by decide) (fun h15 => ?_) (fun h15 => ?_)
    · skip
      refine mw_iload_n dX6_star_49 rfl ?_
      refine mw_iconst (v := 1) dX6_star_50 (by decide) ?_
      refine mw_icmp_ne (tgt := 85) dX6_star_51 (by decide) (fun h51 => ?_) (fun h51 => ?_)
      · skip
        refine mw_iload dX6_star_85 rfl ?_
        exact mw_iret dX6_star_87 rfl (by decide) (by decide) (by
  rw [sStar, ecl]
  first
  | (subst h15; rw [if_pos (by grind), c0]; exact ⟨by rw [eh], rfl, tv_upH ha hA, z.up (by omega)⟩)
  | (subst h51; rw [if_pos (by grind), c1]; exact ⟨by rw [ep], rfl, tv_upP ha hA, z.up (by omega)⟩)
  | (rw [if_neg (by grind)]; exact ⟨rfl, rfl, hA, z⟩))
      · skip
        refine mw_iload_n dX6_star_54 rfl ?_
        refine mw_iconst (v := 0) dX6_star_55 (by decide) ?_
        refine mw_bipush (v := 99) dX6_star_56 (by decide) ?_
        refine mw_cSI (g := fX6_within) dX6_star_58 ml_X6_50 mfX6_within (ok_X6_within) rfl rfl (Nat.le_of_ble_eq_true rfl) ⟨by decide, by decide⟩ ⟨by decide, by decide⟩ ?_
        refine mw_if_eqB (tgt := 85) dX6_star_61 (by decide) (fun h61 => ?_) (fun h61 => ?_)
        · skip
          refine mw_iload dX6_star_85 rfl ?_
          exact mw_iret dX6_star_87 rfl (by decide) (by decide) (by
  rw [sStar, ecl]
  first
  | (subst h15; rw [if_pos (by grind), c0]; exact ⟨by rw [eh], rfl, tv_upH ha hA, z.up (by omega)⟩)
  | (subst h51; rw [if_pos (by grind), c1]; exact ⟨by rw [ep], rfl, tv_upP ha hA, z.up (by omega)⟩)
  | (rw [if_neg (by grind)]; exact ⟨rfl, rfl, hA, z⟩))
        · skip
          refine mw_aload_n dX6_star_64 rfl ?_
          refine mw_getr dX6_star_65 fl_X6_10 rfl (by assumption) (by assumption) ?_
          refine mw_getr dX6_star_68 fl_X6_108 rfl (by assumption) (by assumption) ?_
          refine mw_iload_n dX6_star_71 rfl ?_
          refine mw_ialdK (k := a) dX6_star_72 (by assumption) (rfl) (ha) (by decide) ?_
          refine mw_istore dX6_star_73 (by decide) ?_
          refine mw_aload_n dX6_star_75 rfl ?_
          refine mw_getr dX6_star_76 fl_X6_10 rfl (by assumption) (by assumption) ?_
          refine mw_getr dX6_star_79 fl_X6_108 rfl (by assumption) (by assumption) ?_
          refine mw_iload_n dX6_star_82 rfl ?_
          refine mw_iload_n dX6_star_83 rfl ?_
          refine mw_iastK (k := a) dX6_star_84 (by assumption) (rfl) (ha) (by decide) ?_
          refine mw_iload dX6_star_85 rfl ?_
          exact mw_iret dX6_star_87 rfl (by decide) (by decide) (by
  rw [sStar, ecl]
  first
  | (subst h15; rw [if_pos (by grind), c0]; exact ⟨by rw [eh], rfl, tv_upH ha hA, z.up (by omega)⟩)
  | (subst h51; rw [if_pos (by grind), c1]; exact ⟨by rw [ep], rfl, tv_upP ha hA, z.up (by omega)⟩)
  | (rw [if_neg (by grind)]; exact ⟨rfl, rfl, hA, z⟩))
    · skip
      refine mw_iload_n dX6_star_18 rfl ?_
      refine mw_cSI (g := fX6_isBearing) dX6_star_19 ml_X6_54 mfX6_isBearing (ok_X6_isBearing) rfl rfl (Nat.le_of_ble_eq_true rfl) ⟨by decide, by decide⟩ ⟨by decide, by decide⟩ ?_
      refine mw_if_eqB (tgt := 49) dX6_star_22 (by decide) (fun h22 => ?_) (fun h22 => ?_)
      · skip
        refine mw_iload_n dX6_star_49 rfl ?_
        refine mw_iconst (v := 1) dX6_star_50 (by decide) ?_
        refine mw_icmp_ne (tgt := 85) dX6_star_51 (by decide) (fun h51 => ?_) (fun h51 => ?_)
        · skip
          refine mw_iload dX6_star_85 rfl ?_
          exact mw_iret dX6_star_87 rfl (by decide) (by decide) (by
  rw [sStar, ecl]
  first
  | (subst h15; rw [if_pos (by grind), c0]; exact ⟨by rw [eh], rfl, tv_upH ha hA, z.up (by omega)⟩)
  | (subst h51; rw [if_pos (by grind), c1]; exact ⟨by rw [ep], rfl, tv_upP ha hA, z.up (by omega)⟩)
  | (rw [if_neg (by grind)]; exact ⟨rfl, rfl, hA, z⟩))
        · skip
          refine mw_iload_n dX6_star_54 rfl ?_
          refine mw_iconst (v := 0) dX6_star_55 (by decide) ?_
          refine mw_bipush (v := 99) dX6_star_56 (by decide) ?_
          refine mw_cSI (g := fX6_within) dX6_star_58 ml_X6_50 mfX6_within (ok_X6_within) rfl rfl (Nat.le_of_ble_eq_true rfl) ⟨by decide, by decide⟩ ⟨by decide, by decide⟩ ?_
          refine mw_if_eqB (tgt := 85) dX6_star_61 (by decide) (fun h61 => ?_) (fun h61 => ?_)
          · skip
            refine mw_iload dX6_star_85 rfl ?_
            exact mw_iret dX6_star_87 rfl (by decide) (by decide) (by
  rw [sStar, ecl]
  first
  | (subst h15; rw [if_pos (by grind), c0]; exact ⟨by rw [eh], rfl, tv_upH ha hA, z.up (by omega)⟩)
  | (subst h51; rw [if_pos (by grind), c1]; exact ⟨by rw [ep], rfl, tv_upP ha hA, z.up (by omega)⟩)
  | (rw [if_neg (by grind)]; exact ⟨rfl, rfl, hA, z⟩))
          · skip
            refine mw_aload_n dX6_star_64 rfl ?_
            refine mw_getr dX6_star_65 fl_X6_10 rfl (by assumption) (by assumption) ?_
            refine mw_getr dX6_star_68 fl_X6_108 rfl (by assumption) (by assumption) ?_
            refine mw_iload_n dX6_star_71 rfl ?_
            refine mw_ialdK (k := a) dX6_star_72 (by assumption) (rfl) (ha) (by decide) ?_
            refine mw_istore dX6_star_73 (by decide) ?_
            refine mw_aload_n dX6_star_75 rfl ?_
            refine mw_getr dX6_star_76 fl_X6_10 rfl (by assumption) (by assumption) ?_
            refine mw_getr dX6_star_79 fl_X6_108 rfl (by assumption) (by assumption) ?_
            refine mw_iload_n dX6_star_82 rfl ?_
            refine mw_iload_n dX6_star_83 rfl ?_
            refine mw_iastK (k := a) dX6_star_84 (by assumption) (rfl) (ha) (by decide) ?_
            refine mw_iload dX6_star_85 rfl ?_
            exact mw_iret dX6_star_87 rfl (by decide) (by decide) (by
  rw [sStar, ecl]
  first
  | (subst h15; rw [if_pos (by grind), c0]; exact ⟨by rw [eh], rfl, tv_upH ha hA, z.up (by omega)⟩)
  | (subst h51; rw [if_pos (by grind), c1]; exact ⟨by rw [ep], rfl, tv_upP ha hA, z.up (by omega)⟩)
  | (rw [if_neg (by grind)]; exact ⟨rfl, rfl, hA, z⟩))
      · skip
        refine mw_aload_n dX6_star_25 rfl ?_
        refine mw_getr dX6_star_26 fl_X6_10 rfl (by assumption) (by assumption) ?_
        refine mw_getr dX6_star_29 fl_X6_105 rfl (by assumption) (by assumption) ?_
        refine mw_iload_n dX6_star_32 rfl ?_
        refine mw_ialdK (k := a) dX6_star_33 (by assumption) (rfl) (ha) (by decide) ?_
        refine mw_istore dX6_star_34 (by decide) ?_
        refine mw_aload_n dX6_star_36 rfl ?_
        refine mw_getr dX6_star_37 fl_X6_10 rfl (by assumption) (by assumption) ?_
        refine mw_getr dX6_star_40 fl_X6_105 rfl (by assumption) (by assumption) ?_
        refine mw_iload_n dX6_star_43 rfl ?_
        refine mw_iload_n dX6_star_44 rfl ?_
        refine mw_iastK (k := a) dX6_star_45 (by assumption) (rfl) (ha) (by decide) ?_
        refine mw_goto (tgt := 85) dX6_star_46 (by decide) ?_
        refine mw_iload dX6_star_85 rfl ?_
        exact mw_iret dX6_star_87 rfl (by decide) (by decide) (by
  rw [sStar, ecl]
  first
  | (subst h15; rw [if_pos (by grind), c0]; exact ⟨by rw [eh], rfl, tv_upH ha hA, z.up (by omega)⟩)
  | (subst h51; rw [if_pos (by grind), c1]; exact ⟨by rw [ep], rfl, tv_upP ha hA, z.up (by omega)⟩)
  | (rw [if_neg (by grind)]; exact ⟨rfl, rfl, hA, z⟩))
  · skip
    refine mw_ldc dX6_star_7 cn_X6_58 ?_
    exact mw_iret dX6_star_9 rfl (by decide) (by decide) (by rw [sStar, if_neg (by grind)]; exact ⟨rfl, rfl, hA, z⟩)
def sStarOf (A : Nat → Int32) (n : Nat) (v w : Int32) : Int32 := if 0 ≤ v ∧ v ≤ 7 then (if w = 0 then A (10 + v.toNatClampNeg) else if w = 1 then A (18 + v.toNatClampNeg) else if w = 2 then jr (A (10 + v.toNatClampNeg) + A 2) 24 else if w = 3 then fld (fun s i => s ||| ((rSee A i >>> (v &&& 31) &&& 1) <<< (nI i &&& 31))) 0 n else BADi) else BADi
theorem dX6_starOf_0 : decode fX6_starOf.2.1 0 = .ok (.iload_n 1, 1) := by decide +kernel
theorem dX6_starOf_1 : decode fX6_starOf.2.1 1 = .ok (.invokestatic 102, 3) := by decide +kernel
theorem dX6_starOf_4 : decode fX6_starOf.2.1 4 = .ok (.ifCond .ne 6, 3) := by decide +kernel
theorem dX6_starOf_7 : decode fX6_starOf.2.1 7 = .ok (.ldc 58, 2) := by decide +kernel
theorem dX6_starOf_9 : decode fX6_starOf.2.1 9 = .ok (.ireturn, 1) := by decide +kernel
theorem dX6_starOf_10 : decode fX6_starOf.2.1 10 = .ok (.iload_n 2, 1) := by decide +kernel
theorem dX6_starOf_11 : decode fX6_starOf.2.1 11 = .ok (.tableswitch 67 0 3 #[29, 39, 49, 58], 29) := by decide +kernel
theorem dX6_starOf_40 : decode fX6_starOf.2.1 40 = .ok (.aload_n 0, 1) := by decide +kernel
theorem dX6_starOf_41 : decode fX6_starOf.2.1 41 = .ok (.getfield 10, 3) := by decide +kernel
theorem dX6_starOf_44 : decode fX6_starOf.2.1 44 = .ok (.getfield 105, 3) := by decide +kernel
theorem dX6_starOf_47 : decode fX6_starOf.2.1 47 = .ok (.iload_n 1, 1) := by decide +kernel
theorem dX6_starOf_48 : decode fX6_starOf.2.1 48 = .ok (.iaload, 1) := by decide +kernel
theorem dX6_starOf_49 : decode fX6_starOf.2.1 49 = .ok (.ireturn, 1) := by decide +kernel
theorem dX6_starOf_50 : decode fX6_starOf.2.1 50 = .ok (.aload_n 0, 1) := by decide +kernel
theorem dX6_starOf_51 : decode fX6_starOf.2.1 51 = .ok (.getfield 10, 3) := by decide +kernel
theorem dX6_starOf_54 : decode fX6_starOf.2.1 54 = .ok (.getfield 108, 3) := by decide +kernel
theorem dX6_starOf_57 : decode fX6_starOf.2.1 57 = .ok (.iload_n 1, 1) := by decide +kernel
theorem dX6_starOf_58 : decode fX6_starOf.2.1 58 = .ok (.iaload, 1) := by decide +kernel
theorem dX6_starOf_59 : decode fX6_starOf.2.1 59 = .ok (.ireturn, 1) := by decide +kernel
theorem dX6_starOf_60 : decode fX6_starOf.2.1 60 = .ok (.aload_n 0, 1) := by decide +kernel
theorem dX6_starOf_61 : decode fX6_starOf.2.1 61 = .ok (.getfield 10, 3) := by decide +kernel
theorem dX6_starOf_64 : decode fX6_starOf.2.1 64 = .ok (.iload_n 1, 1) := by decide +kernel
theorem dX6_starOf_65 : decode fX6_starOf.2.1 65 = .ok (.invokevirtual 111, 3) := by decide +kernel
theorem dX6_starOf_68 : decode fX6_starOf.2.1 68 = .ok (.ireturn, 1) := by decide +kernel
theorem dX6_starOf_69 : decode fX6_starOf.2.1 69 = .ok (.aload_n 0, 1) := by decide +kernel
theorem dX6_starOf_70 : decode fX6_starOf.2.1 70 = .ok (.getfield 10, 3) := by decide +kernel
theorem dX6_starOf_73 : decode fX6_starOf.2.1 73 = .ok (.iload_n 1, 1) := by decide +kernel
theorem dX6_starOf_74 : decode fX6_starOf.2.1 74 = .ok (.invokevirtual 115, 3) := by decide +kernel
theorem dX6_starOf_77 : decode fX6_starOf.2.1 77 = .ok (.ireturn, 1) := by decide +kernel
theorem dX6_starOf_78 : decode fX6_starOf.2.1 78 = .ok (.ldc 58, 2) := by decide +kernel
theorem dX6_starOf_80 : decode fX6_starOf.2.1 80 = .ok (.ireturn, 1) := by decide +kernel
set_option maxRecDepth 100000 in
set_option maxHeartbeats 4000000 in
theorem ok_X6_starOf {X : Xb} {S : Sg} {mi : Mem} {x n : Nat} {A : Nat → Int32} {v w : Int32} (hX : AsA S x) (hn8 : n ≤ 8) (hA : eqOn (26 + 5 * n) (tv mi (x + 1)) A) (hn : A 1 = nI n) : Ok 4 0 0 fX6_starOf X [rf X x, .int v, .int w] S mi (PS S mi x (sStarOf A n v w, A, n)) := by
  refine Ok.go [some (rf X x), some (.int v), some (.int w)] (by decide) (by simp [Value.category]) (Nat.le_of_ble_eq_true rfl) rfl ?_
  obtain ⟨k_x, ⟨r_x_now, t_now⟩, ⟨r_x_thought, t_thought⟩, ⟨r_x_image, t_image⟩, ⟨r_x_tape, t_tape⟩, ⟨r_x_sheets, k_x_sheets⟩, ⟨r_x_slots, k_x_slots⟩, ⟨r_x_waiting, k_x_waiting⟩, ⟨r_x_diff, k_x_diff⟩, a_sheets, a_slots⟩ := id hX
  obtain ⟨k_t, ⟨r_t_home, k_t_home⟩, ⟨r_t_price, k_t_price⟩, ⟨r_t_attics, k_t_attics⟩, ⟨r_t_texts, k_t_texts⟩, ⟨r_t_counting, k_t_counting⟩, ⟨r_t_names, k_t_names⟩, ⟨r_t_pile, k_t_pile⟩, ⟨r_t_views, k_t_views⟩, a_t⟩ := id t_now
  have ec : mi (x + 1) 3 = nI n := by rw [show (3 : Nat) = tvF 1 from rfl, tv_0 hA (by decide) (by omega), hn]
  have e10 : mi (x + 1) 10 = A 2 := tv_0 (j := 2) hA (by decide) (by omega)
  have z := Fr1.rf (x + 1) mi
  refine mw_iload_n dX6_starOf_0 rfl ?_
  refine mw_cSI (g := fX6_isStar) dX6_starOf_1 ml_X6_102 mfX6_isStar (ok_X6_isStar) rfl rfl (Nat.le_of_ble_eq_true rfl) ⟨by decide, by decide⟩ ⟨by decide, by decide⟩ ?_
  refine mw_if_neB (tgt := 10) dX6_starOf_4 (by decide) (fun h4 => ?_) (fun h4 => ?_)
  · skip
    obtain ⟨a, ha, rfl⟩ := in7 h4
    have ecl : (nI a).toNatClampNeg = a := nI_clamp (by omega)
    have eh := tv_home (k := a) hA ha (by omega)
    have ep := tv_price (k := a) hA ha (by omega)
    refine mw_iload_n dX6_starOf_10 rfl ?_
    refine mw_ts1 dX6_starOf_11 (by decide) 0 40 (by decide) (fun h11_0 => ?_) (fun h11_0 => ?_)
    · skip
      refine mw_aload_n dX6_starOf_40 rfl ?_
      refine mw_getr dX6_starOf_41 fl_X6_10 rfl (by assumption) (by assumption) ?_
      refine mw_getr dX6_starOf_44 fl_X6_105 rfl (by assumption) (by assumption) ?_
      refine mw_iload_n dX6_starOf_47 rfl ?_
      refine mw_ialdK (k := a) dX6_starOf_48 (by assumption) (rfl) (ha) (by decide) ?_
      exact mw_iret dX6_starOf_49 rfl (by decide) (by decide) (⟨by simp only [sStarOf, if_pos h4, ecl]; simp_all, rfl, hA, z⟩)
    refine mw_ts1 dX6_starOf_11 (by decide) 1 50 (by decide) (fun h11_1 => ?_) (fun h11_1 => ?_)
    · skip
      refine mw_aload_n dX6_starOf_50 rfl ?_
      refine mw_getr dX6_starOf_51 fl_X6_10 rfl (by assumption) (by assumption) ?_
      refine mw_getr dX6_starOf_54 fl_X6_108 rfl (by assumption) (by assumption) ?_
      refine mw_iload_n dX6_starOf_57 rfl ?_
      refine mw_ialdK (k := a) dX6_starOf_58 (by assumption) (rfl) (ha) (by decide) ?_
      exact mw_iret dX6_starOf_59 rfl (by decide) (by decide) (⟨by simp only [sStarOf, if_pos h4, ecl]; simp_all, rfl, hA, z⟩)
    refine mw_ts1 dX6_starOf_11 (by decide) 2 60 (by decide) (fun h11_2 => ?_) (fun h11_2 => ?_)
    · skip
      refine mw_aload_n dX6_starOf_60 rfl ?_
      refine mw_getr dX6_starOf_61 fl_X6_10 rfl (by assumption) (by assumption) ?_
      refine mw_iload_n dX6_starOf_64 rfl ?_
      refine mw_cVI (g := fX5_bearingOf) dX6_starOf_65 ml_X6_111 mfX5_bearingOf (ok_X5_bearingOf t_now ha) (by assumption) rfl rfl (Nat.le_of_ble_eq_true rfl) ⟨by decide, by decide⟩ ⟨by decide, by decide⟩ ?_
      exact mw_iret dX6_starOf_68 rfl (by decide) (by decide) (⟨by simp only [sStarOf, if_pos h4, ecl]; simp_all, rfl, hA, z⟩)
    refine mw_ts1 dX6_starOf_11 (by decide) 3 69 (by decide) (fun h11_3 => ?_) (fun h11_3 => ?_)
    · skip
      refine mw_aload_n dX6_starOf_69 rfl ?_
      refine mw_getr dX6_starOf_70 fl_X6_10 rfl (by assumption) (by assumption) ?_
      refine mw_iload_n dX6_starOf_73 rfl ?_
      refine mw_cVI (g := fX5_watchersOf) dX6_starOf_74 ml_X6_115 mfX5_watchersOf (ok_X5_watchersOf t_now ec hn8) (by assumption) rfl rfl (Nat.le_of_ble_eq_true rfl) ⟨by decide, by decide⟩ ⟨by decide, by decide⟩ ?_
      exact mw_iret dX6_starOf_77 rfl (by decide) (by decide) (⟨by rw [fld_congr n (fun s k hk => by rw [show cSeesA mi (x + 1) k = rSee A k from rSee_of hA (by omega)])]; simp only [sStarOf, if_pos h4, ecl, h11_3]; simp, rfl, hA, z⟩)
    refine mw_ts0 dX6_starOf_11 (by decide) 78 (by decide) (by have e0 := ne_toI (n := 0) (by decide) h11_0; have e1 := ne_toI (n := 1) (by decide) h11_1; have e2 := ne_toI (n := 2) (by decide) h11_2; have e3 := ne_toI (n := 3) (by decide) h11_3; omega) ?_
    refine mw_ldc dX6_starOf_78 cn_X6_58 ?_
    exact mw_iret dX6_starOf_80 rfl (by decide) (by decide) (⟨by simp only [sStarOf, if_pos h4, ecl]; simp_all, rfl, hA, z⟩)
  · skip
    refine mw_ldc dX6_starOf_7 cn_X6_58 ?_
    exact mw_iret dX6_starOf_9 rfl (by decide) (by decide) (by rw [sStarOf, if_neg h4]; exact ⟨rfl, rfl, hA, z⟩)
