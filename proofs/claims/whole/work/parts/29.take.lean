/-! a town taken after another -/
def TxR (S : Sg) (u : Nat) : Prop := ∀ i, i < 14 → ∀ p, S.2.2 (u + 4) i = some p → Kd S p 4 0
theorem cpR_0 (mr : Rfm) (t u : Nat) : cpR mr t u 0 = mr := by funext a j; simp [cpR]
theorem cpR_s {mr : Rfm} {t u k : Nat} (h : t ≠ u) : r_up (cpR mr t u k) (t + 4) k (mr (u + 4) k) = cpR mr t u (k + 1) := by
  funext a j
  simp only [r_up, cpR]
  by_cases c : a = t + 4
  · subst c
    by_cases c2 : j = k
    · subst c2; simp
    · simp only [c2, and_false, if_false, true_and]
      by_cases c3 : j < k
      · simp [c3, show j < k + 1 by omega]
      · simp [c3, show ¬ j < k + 1 by omega]
  · simp [c]
theorem dX5_takeAfter_0 : decode fX5_takeAfter.2.1 0 = .ok (.aload_n 1, 1) := by decide +kernel
theorem dX5_takeAfter_1 : decode fX5_takeAfter.2.1 1 = .ok (.getfield 9, 3) := by decide +kernel
theorem dX5_takeAfter_4 : decode fX5_takeAfter.2.1 4 = .ok (.iconst 0, 1) := by decide +kernel
theorem dX5_takeAfter_5 : decode fX5_takeAfter.2.1 5 = .ok (.aload_n 0, 1) := by decide +kernel
theorem dX5_takeAfter_6 : decode fX5_takeAfter.2.1 6 = .ok (.getfield 9, 3) := by decide +kernel
theorem dX5_takeAfter_9 : decode fX5_takeAfter.2.1 9 = .ok (.iconst 0, 1) := by decide +kernel
theorem dX5_takeAfter_10 : decode fX5_takeAfter.2.1 10 = .ok (.bipush 8, 2) := by decide +kernel
theorem dX5_takeAfter_12 : decode fX5_takeAfter.2.1 12 = .ok (.invokestatic 53, 3) := by decide +kernel
theorem dX5_takeAfter_15 : decode fX5_takeAfter.2.1 15 = .ok (.aload_n 1, 1) := by decide +kernel
theorem dX5_takeAfter_16 : decode fX5_takeAfter.2.1 16 = .ok (.getfield 15, 3) := by decide +kernel
theorem dX5_takeAfter_19 : decode fX5_takeAfter.2.1 19 = .ok (.iconst 0, 1) := by decide +kernel
theorem dX5_takeAfter_20 : decode fX5_takeAfter.2.1 20 = .ok (.aload_n 0, 1) := by decide +kernel
theorem dX5_takeAfter_21 : decode fX5_takeAfter.2.1 21 = .ok (.getfield 15, 3) := by decide +kernel
theorem dX5_takeAfter_24 : decode fX5_takeAfter.2.1 24 = .ok (.iconst 0, 1) := by decide +kernel
theorem dX5_takeAfter_25 : decode fX5_takeAfter.2.1 25 = .ok (.bipush 8, 2) := by decide +kernel
theorem dX5_takeAfter_27 : decode fX5_takeAfter.2.1 27 = .ok (.invokestatic 53, 3) := by decide +kernel
theorem dX5_takeAfter_30 : decode fX5_takeAfter.2.1 30 = .ok (.iconst 0, 1) := by decide +kernel
theorem dX5_takeAfter_31 : decode fX5_takeAfter.2.1 31 = .ok (.istore_n 2, 1) := by decide +kernel
theorem dX5_takeAfter_32 : decode fX5_takeAfter.2.1 32 = .ok (.iload_n 2, 1) := by decide +kernel
theorem dX5_takeAfter_33 : decode fX5_takeAfter.2.1 33 = .ok (.aload_n 1, 1) := by decide +kernel
theorem dX5_takeAfter_34 : decode fX5_takeAfter.2.1 34 = .ok (.getfield 59, 3) := by decide +kernel
theorem dX5_takeAfter_37 : decode fX5_takeAfter.2.1 37 = .ok (.if_icmp .ge 24, 3) := by decide +kernel
theorem dX5_takeAfter_40 : decode fX5_takeAfter.2.1 40 = .ok (.aload_n 0, 1) := by decide +kernel
theorem dX5_takeAfter_41 : decode fX5_takeAfter.2.1 41 = .ok (.getfield 20, 3) := by decide +kernel
theorem dX5_takeAfter_44 : decode fX5_takeAfter.2.1 44 = .ok (.iload_n 2, 1) := by decide +kernel
theorem dX5_takeAfter_45 : decode fX5_takeAfter.2.1 45 = .ok (.aaload, 1) := by decide +kernel
theorem dX5_takeAfter_46 : decode fX5_takeAfter.2.1 46 = .ok (.aload_n 1, 1) := by decide +kernel
theorem dX5_takeAfter_47 : decode fX5_takeAfter.2.1 47 = .ok (.getfield 20, 3) := by decide +kernel
theorem dX5_takeAfter_50 : decode fX5_takeAfter.2.1 50 = .ok (.iload_n 2, 1) := by decide +kernel
theorem dX5_takeAfter_51 : decode fX5_takeAfter.2.1 51 = .ok (.aaload, 1) := by decide +kernel
theorem dX5_takeAfter_52 : decode fX5_takeAfter.2.1 52 = .ok (.invokevirtual 62, 3) := by decide +kernel
theorem dX5_takeAfter_55 : decode fX5_takeAfter.2.1 55 = .ok (.iinc 2 1, 3) := by decide +kernel
theorem dX5_takeAfter_58 : decode fX5_takeAfter.2.1 58 = .ok (.goto (-26), 3) := by decide +kernel
theorem dX5_takeAfter_61 : decode fX5_takeAfter.2.1 61 = .ok (.aload_n 0, 1) := by decide +kernel
theorem dX5_takeAfter_62 : decode fX5_takeAfter.2.1 62 = .ok (.aload_n 1, 1) := by decide +kernel
theorem dX5_takeAfter_63 : decode fX5_takeAfter.2.1 63 = .ok (.getfield 59, 3) := by decide +kernel
theorem dX5_takeAfter_66 : decode fX5_takeAfter.2.1 66 = .ok (.putfield 59, 3) := by decide +kernel
theorem dX5_takeAfter_69 : decode fX5_takeAfter.2.1 69 = .ok (.aload_n 0, 1) := by decide +kernel
theorem dX5_takeAfter_70 : decode fX5_takeAfter.2.1 70 = .ok (.aload_n 1, 1) := by decide +kernel
theorem dX5_takeAfter_71 : decode fX5_takeAfter.2.1 71 = .ok (.getfield 66, 3) := by decide +kernel
theorem dX5_takeAfter_74 : decode fX5_takeAfter.2.1 74 = .ok (.putfield 66, 3) := by decide +kernel
theorem dX5_takeAfter_77 : decode fX5_takeAfter.2.1 77 = .ok (.aload_n 0, 1) := by decide +kernel
theorem dX5_takeAfter_78 : decode fX5_takeAfter.2.1 78 = .ok (.aload_n 1, 1) := by decide +kernel
theorem dX5_takeAfter_79 : decode fX5_takeAfter.2.1 79 = .ok (.getfield 24, 3) := by decide +kernel
theorem dX5_takeAfter_82 : decode fX5_takeAfter.2.1 82 = .ok (.putfield 24, 3) := by decide +kernel
theorem dX5_takeAfter_85 : decode fX5_takeAfter.2.1 85 = .ok (.aload_n 0, 1) := by decide +kernel
theorem dX5_takeAfter_86 : decode fX5_takeAfter.2.1 86 = .ok (.aload_n 1, 1) := by decide +kernel
theorem dX5_takeAfter_87 : decode fX5_takeAfter.2.1 87 = .ok (.getfield 69, 3) := by decide +kernel
theorem dX5_takeAfter_90 : decode fX5_takeAfter.2.1 90 = .ok (.putfield 69, 3) := by decide +kernel
theorem dX5_takeAfter_93 : decode fX5_takeAfter.2.1 93 = .ok (.aload_n 0, 1) := by decide +kernel
theorem dX5_takeAfter_94 : decode fX5_takeAfter.2.1 94 = .ok (.aload_n 1, 1) := by decide +kernel
theorem dX5_takeAfter_95 : decode fX5_takeAfter.2.1 95 = .ok (.getfield 28, 3) := by decide +kernel
theorem dX5_takeAfter_98 : decode fX5_takeAfter.2.1 98 = .ok (.putfield 28, 3) := by decide +kernel
theorem dX5_takeAfter_101 : decode fX5_takeAfter.2.1 101 = .ok (.aload_n 0, 1) := by decide +kernel
theorem dX5_takeAfter_102 : decode fX5_takeAfter.2.1 102 = .ok (.aload_n 1, 1) := by decide +kernel
theorem dX5_takeAfter_103 : decode fX5_takeAfter.2.1 103 = .ok (.getfield 72, 3) := by decide +kernel
theorem dX5_takeAfter_106 : decode fX5_takeAfter.2.1 106 = .ok (.putfield 72, 3) := by decide +kernel
theorem dX5_takeAfter_109 : decode fX5_takeAfter.2.1 109 = .ok (.aload_n 0, 1) := by decide +kernel
theorem dX5_takeAfter_110 : decode fX5_takeAfter.2.1 110 = .ok (.aload_n 1, 1) := by decide +kernel
theorem dX5_takeAfter_111 : decode fX5_takeAfter.2.1 111 = .ok (.getfield 75, 3) := by decide +kernel
theorem dX5_takeAfter_114 : decode fX5_takeAfter.2.1 114 = .ok (.putfield 75, 3) := by decide +kernel
theorem dX5_takeAfter_117 : decode fX5_takeAfter.2.1 117 = .ok (.aload_n 0, 1) := by decide +kernel
theorem dX5_takeAfter_118 : decode fX5_takeAfter.2.1 118 = .ok (.aload_n 1, 1) := by decide +kernel
theorem dX5_takeAfter_119 : decode fX5_takeAfter.2.1 119 = .ok (.getfield 78, 3) := by decide +kernel
theorem dX5_takeAfter_122 : decode fX5_takeAfter.2.1 122 = .ok (.putfield 78, 3) := by decide +kernel
theorem dX5_takeAfter_125 : decode fX5_takeAfter.2.1 125 = .ok (.aload_n 0, 1) := by decide +kernel
theorem dX5_takeAfter_126 : decode fX5_takeAfter.2.1 126 = .ok (.aload_n 1, 1) := by decide +kernel
theorem dX5_takeAfter_127 : decode fX5_takeAfter.2.1 127 = .ok (.getfield 31, 3) := by decide +kernel
theorem dX5_takeAfter_130 : decode fX5_takeAfter.2.1 130 = .ok (.putfield 31, 3) := by decide +kernel
theorem dX5_takeAfter_133 : decode fX5_takeAfter.2.1 133 = .ok (.iconst 0, 1) := by decide +kernel
theorem dX5_takeAfter_134 : decode fX5_takeAfter.2.1 134 = .ok (.istore_n 2, 1) := by decide +kernel
theorem dX5_takeAfter_135 : decode fX5_takeAfter.2.1 135 = .ok (.iload_n 2, 1) := by decide +kernel
theorem dX5_takeAfter_136 : decode fX5_takeAfter.2.1 136 = .ok (.bipush 14, 2) := by decide +kernel
theorem dX5_takeAfter_138 : decode fX5_takeAfter.2.1 138 = .ok (.if_icmp .ge 21, 3) := by decide +kernel
theorem dX5_takeAfter_141 : decode fX5_takeAfter.2.1 141 = .ok (.aload_n 0, 1) := by decide +kernel
theorem dX5_takeAfter_142 : decode fX5_takeAfter.2.1 142 = .ok (.getfield 36, 3) := by decide +kernel
theorem dX5_takeAfter_145 : decode fX5_takeAfter.2.1 145 = .ok (.iload_n 2, 1) := by decide +kernel
theorem dX5_takeAfter_146 : decode fX5_takeAfter.2.1 146 = .ok (.aload_n 1, 1) := by decide +kernel
theorem dX5_takeAfter_147 : decode fX5_takeAfter.2.1 147 = .ok (.getfield 36, 3) := by decide +kernel
theorem dX5_takeAfter_150 : decode fX5_takeAfter.2.1 150 = .ok (.iload_n 2, 1) := by decide +kernel
theorem dX5_takeAfter_151 : decode fX5_takeAfter.2.1 151 = .ok (.aaload, 1) := by decide +kernel
theorem dX5_takeAfter_152 : decode fX5_takeAfter.2.1 152 = .ok (.aastore, 1) := by decide +kernel
theorem dX5_takeAfter_153 : decode fX5_takeAfter.2.1 153 = .ok (.iinc 2 1, 3) := by decide +kernel
theorem dX5_takeAfter_156 : decode fX5_takeAfter.2.1 156 = .ok (.goto (-21), 3) := by decide +kernel
theorem dX5_takeAfter_159 : decode fX5_takeAfter.2.1 159 = .ok (.aload_n 0, 1) := by decide +kernel
theorem dX5_takeAfter_160 : decode fX5_takeAfter.2.1 160 = .ok (.aload_n 1, 1) := by decide +kernel
theorem dX5_takeAfter_161 : decode fX5_takeAfter.2.1 161 = .ok (.getfield 81, 3) := by decide +kernel
theorem dX5_takeAfter_164 : decode fX5_takeAfter.2.1 164 = .ok (.putfield 81, 3) := by decide +kernel
theorem dX5_takeAfter_167 : decode fX5_takeAfter.2.1 167 = .ok (.aload_n 1, 1) := by decide +kernel
theorem dX5_takeAfter_168 : decode fX5_takeAfter.2.1 168 = .ok (.getfield 40, 3) := by decide +kernel
theorem dX5_takeAfter_171 : decode fX5_takeAfter.2.1 171 = .ok (.iconst 0, 1) := by decide +kernel
theorem dX5_takeAfter_172 : decode fX5_takeAfter.2.1 172 = .ok (.aload_n 0, 1) := by decide +kernel
theorem dX5_takeAfter_173 : decode fX5_takeAfter.2.1 173 = .ok (.getfield 40, 3) := by decide +kernel
theorem dX5_takeAfter_176 : decode fX5_takeAfter.2.1 176 = .ok (.iconst 0, 1) := by decide +kernel
theorem dX5_takeAfter_177 : decode fX5_takeAfter.2.1 177 = .ok (.iconst 3, 1) := by decide +kernel
theorem dX5_takeAfter_178 : decode fX5_takeAfter.2.1 178 = .ok (.invokestatic 53, 3) := by decide +kernel
theorem dX5_takeAfter_181 : decode fX5_takeAfter.2.1 181 = .ok (.return_, 1) := by decide +kernel
set_option maxRecDepth 100000 in
set_option maxHeartbeats 4000000 in
theorem ok_X5_takeAfter {X : Xb} {S : Sg} {mi : Mem} {t u n : Nat} (hT : TwA S t) (hU : TwA S u) (hd : u + 17 ≤ t ∨ t + 17 ≤ u) (hn : mi u 3 = nI n) (hn8 : n ≤ 8) (hx : TxR S u) : Ok 1 0 0 fX5_takeAfter X [rf X t, rf X u] S mi (fun r S' m => r = none ∧ S' = cpS S t u 14 ∧ (∀ a, a < t ∨ t + 17 ≤ a → m a = mi a) ∧ eqOn (26 + 5 * n) (tv m t) (tv mi u) ∧ ∀ j, j < 3 → m (t + 5) j = mi (u + 5) j) := by
  refine Ok.go [some (rf X t), some (rf X u), none] (by decide) (by simp [Value.category]) (Nat.le_of_ble_eq_true rfl) rfl ?_
  obtain ⟨k_t, ⟨r_t_home, k_t_home⟩, ⟨r_t_price, k_t_price⟩, ⟨r_t_attics, k_t_attics⟩, ⟨r_t_texts, k_t_texts⟩, ⟨r_t_counting, k_t_counting⟩, ⟨r_t_names, k_t_names⟩, ⟨r_t_pile, k_t_pile⟩, ⟨r_t_views, k_t_views⟩, a_t⟩ := id hT
  obtain ⟨k_u, ⟨r_u_home, k_u_home⟩, ⟨r_u_price, k_u_price⟩, ⟨r_u_attics, k_u_attics⟩, ⟨r_u_texts, k_u_texts⟩, ⟨r_u_counting, k_u_counting⟩, ⟨r_u_names, k_u_names⟩, ⟨r_u_pile, k_u_pile⟩, ⟨r_u_views, k_u_views⟩, a_u⟩ := id hU
  have s159 : ∀ m, (∀ a, a < t ∨ t + 17 ≤ a → m a = mi a) → (∀ j, j < 8 → m (t + 1) j = mi (u + 1) j) → (∀ j, j < 8 → m (t + 2) j = mi (u + 2) j) → (∀ i, i < n → ∀ f, f < 5 → m (t + 9 + i) f = mi (u + 9 + i) f) → (∀ j, j < 10 → tvF j ≠ 13 → m t (tvF j) = mi u (tvF j)) → MW X fX5_takeAfter (rmOf 1 0 0) 0 0 159 [some (rf X t), some (rf X u), none] [] (cpS S t u 14) m (mQ X 0 0 (fun r S' m => r = none ∧ S' = cpS S t u 14 ∧ (∀ a, a < t ∨ t + 17 ≤ a → m a = mi a) ∧ eqOn (26 + 5 * n) (tv m t) (tv mi u) ∧ ∀ j, j < 3 → m (t + 5) j = mi (u + 5) j)) := by
    intro m hm h1 h2 h3 h4
    have hT2 := TwA.cp (u := u) (k := 14) hT k_t_texts
    have hU2 := TwA.cp (t := t) (u := u) (k := 14) hU k_t_texts
    obtain ⟨k_v, ⟨r_v_home, k_v_home⟩, ⟨r_v_price, k_v_price⟩, ⟨r_v_attics, k_v_attics⟩, ⟨r_v_texts, k_v_texts⟩, ⟨r_v_counting, k_v_counting⟩, ⟨r_v_names, k_v_names⟩, ⟨r_v_pile, k_v_pile⟩, ⟨r_v_views, k_v_views⟩, a_v⟩ := id hT2
    obtain ⟨k_w, ⟨r_w_home, k_w_home⟩, ⟨r_w_price, k_w_price⟩, ⟨r_w_attics, k_w_attics⟩, ⟨r_w_texts, k_w_texts⟩, ⟨r_w_counting, k_w_counting⟩, ⟨r_w_names, k_w_names⟩, ⟨r_w_pile, k_w_pile⟩, ⟨r_w_views, k_w_views⟩, a_w⟩ := id hU2
    have eu : m u = mi u := hm u (by omega)
    have eu5 : m (u + 5) = mi (u + 5) := hm (u + 5) (by omega)
    refine mw_aload_n dX5_takeAfter_159 rfl ?_
    refine mw_aload_n dX5_takeAfter_160 rfl ?_
    refine mw_geti dX5_takeAfter_161 fl_X5_81 rfl (by assumption) ?_
    rw [eu]
    refine mw_puti dX5_takeAfter_164 fl_X5_81 ft_5_13 rfl (rfl) rfl (by assumption) ?_
    refine mw_aload_n dX5_takeAfter_167 rfl ?_
    refine mw_getr dX5_takeAfter_168 fl_X5_40 rfl (by assumption) (by assumption) ?_
    refine mw_iconst (v := 0) dX5_takeAfter_171 (by decide) ?_
    refine mw_aload_n dX5_takeAfter_172 rfl ?_
    refine mw_getr dX5_takeAfter_173 fl_X5_40 rfl (by assumption) (by assumption) ?_
    refine mw_iconst (v := 0) dX5_takeAfter_176 (by decide) ?_
    refine mw_iconst (v := 3) dX5_takeAfter_177 (by decide) ?_
    refine mw_acopy dX5_takeAfter_178 ml_X5_53 (by assumption) (by assumption) (by decide) (by decide) (by decide) (by decide) (by decide) (Nat.le_of_ble_eq_true rfl) ⟨by decide, by decide⟩ ?_
    refine mw_vret dX5_takeAfter_181 rfl (by decide) (by decide) ⟨rfl, rfl, fun a ha => ?_, fun j hj => ?_, fun j hj => ?_⟩
    · funext b
      simp only [m_cpy, show a ≠ t + 5 by omega, false_and, if_false]
      rw [m_up_ne (show a ≠ t by omega)]; exact congrFun (hm a ha) b
    · have hc5 : ∀ a, a ≠ t + 5 → m_cpy (m_up m t 13 (mi u 13)) (u + 5) (t + 5) (Int32.toNatClampNeg 0) (Int32.toNatClampNeg 0) (Int32.toNatClampNeg 3) a = m_up m t 13 (mi u 13) a := fun a ha => by funext b; simp [m_cpy, ha]
      simp only [tv]
      by_cases c1 : j < 10
      · simp only [c1, if_true]
        rw [hc5 t (by omega)]
        by_cases c2 : tvF j = 13
        · rw [c2, m_up_at]
        · rw [m_up_of c2]; exact h4 j c1 c2
      · simp only [c1, if_false]
        by_cases c2 : j < 18
        · simp only [c2, if_true]; rw [hc5 (t + 1) (by omega), m_up_ne (by omega)]; exact h1 _ (by omega)
        · simp only [c2, if_false]
          by_cases c3 : j < 26
          · simp only [c3, if_true]; rw [hc5 (t + 2) (by omega), m_up_ne (by omega)]; exact h2 _ (by omega)
          · simp only [c3, if_false]; rw [hc5 _ (by omega), m_up_ne (by omega)]; exact h3 _ (by omega) _ (by omega)
    · have e3 : Int32.toNatClampNeg 3 = 3 := by decide
      have e0 : Int32.toNatClampNeg 0 = 0 := by decide
      simp only [m_cpy, e3, e0, true_and, Nat.zero_le, Nat.zero_add, hj, if_true, Nat.sub_zero]
      rw [m_up_ne (by omega), eu5]
  have s135 : ∀ m, (∀ a, a < t ∨ t + 17 ≤ a → m a = mi a) → (∀ j, j < 8 → m (t + 1) j = mi (u + 1) j) → (∀ j, j < 8 → m (t + 2) j = mi (u + 2) j) → (∀ i, i < n → ∀ f, f < 5 → m (t + 9 + i) f = mi (u + 9 + i) f) → (∀ j, j < 10 → tvF j ≠ 13 → m t (tvF j) = mi u (tvF j)) → MW X fX5_takeAfter (rmOf 1 0 0) 0 0 135 [some (rf X t), some (rf X u), some (.int (nI 0))] [] S m (mQ X 0 0 (fun r S' m => r = none ∧ S' = cpS S t u 14 ∧ (∀ a, a < t ∨ t + 17 ≤ a → m a = mi a) ∧ eqOn (26 + 5 * n) (tv m t) (tv mi u) ∧ ∀ j, j < 3 → m (t + 5) j = mi (u + 5) j)) := by
    intro m hm h1 h2 h3 h4
    have lp := mw_dn (P := fun k => MW X fX5_takeAfter (rmOf 1 0 0) 0 0 135 [some (rf X t), some (rf X u), some (.int (nI k))] [] (cpS S t u k) m (mQ X 0 0 (fun r S' m => r = none ∧ S' = cpS S t u 14 ∧ (∀ a, a < t ∨ t + 17 ≤ a → m a = mi a) ∧ eqOn (26 + 5 * n) (tv m t) (tv mi u) ∧ ∀ j, j < 3 → m (t + 5) j = mi (u + 5) j))) 14 (by
      refine mw_iload_n dX5_takeAfter_135 rfl ?_
      refine mw_bipush (v := 14) dX5_takeAfter_136 (by decide) ?_
      refine mw_icmp_ge (tgt := 159) dX5_takeAfter_138 (by decide) (fun h138 => ?_) (fun h138 => ?_)
      · skip
        exact MW.sub (by simp [lsub]) (s159 m hm h1 h2 h3 h4)
      · skip
        exact absurd (by decide) h138) (fun k hk ih => by
      have hv : (cpS S t u k).2.2 (u + 4) k = S.2.2 (u + 4) k := by simp [cpR, show u ≠ t by omega]
      have hT2 := TwA.cp (u := u) (k := k) hT k_t_texts
      have hU2 := TwA.cp (t := t) (u := u) (k := k) hU k_t_texts
      have hcp := cpR_s (mr := S.2.2) (k := k) (show t ≠ u by omega)
      refine mw_iload_n dX5_takeAfter_135 rfl ?_
      refine mw_bipush (v := 14) dX5_takeAfter_136 (by decide) ?_
      refine mw_icmp_ge (tgt := 159) dX5_takeAfter_138 (by decide) (fun h138 => ?_) (fun h138 => ?_)
      · skip
        exact absurd h138 (nI_ge (b := 14) (by omega) (by decide))
      · skip
        refine mw_aload_n dX5_takeAfter_141 rfl ?_
        refine mw_getr dX5_takeAfter_142 fl_X5_36 rfl (hT2.1) (hT2.2.2.2.2.1.1) ?_
        refine mw_iload_n dX5_takeAfter_145 rfl ?_
        refine mw_aload_n dX5_takeAfter_146 rfl ?_
        refine mw_getr dX5_takeAfter_147 fl_X5_36 rfl (hU2.1) (hU2.2.2.2.2.1.1) ?_
        refine mw_iload_n dX5_takeAfter_150 rfl ?_
        refine mw_aldv dX5_takeAfter_151 hU2.2.2.2.2.1.2 (by decide) (vp_in_nI (by omega) (by decide)) ?_
        rw [nI_clamp (by omega), hv]
        cases hp : S.2.2 (u + 4) k with
        | none =>
          refine mw_aastN dX5_takeAfter_152 hT2.2.2.2.2.1.2 (vp_in_nI (by omega) (by decide)) ?_
          rw [nI_clamp (by omega)]
          refine mw_iincK (k := k) dX5_takeAfter_153 rfl rfl (by decide) ?_
          refine mw_goto (tgt := 135) dX5_takeAfter_156 (by decide) ?_
          rw [hp] at hcp
          simp only [hcp]
          exact MW.sub (by simp [lsub]) ih
        | some p =>
          refine mw_aast (t0 := 6) dX5_takeAfter_152 hT2.2.2.2.2.1.2 (hx k hk p hp) (by simp [aTy]) (vp_in_nI (by omega) (by decide)) ?_
          rw [nI_clamp (by omega)]
          refine mw_iincK (k := k) dX5_takeAfter_153 rfl rfl (by decide) ?_
          refine mw_goto (tgt := 135) dX5_takeAfter_156 (by decide) ?_
          rw [hp] at hcp
          simp only [hcp]
          exact MW.sub (by simp [lsub]) ih)
    have e0 : cpS S t u 0 = S := by simp only [cpS, cpR_0]
    rw [e0] at lp
    exact lp
  have s61 : ∀ m, (∀ a, a < t ∨ t + 17 ≤ a → m a = mi a) → (∀ j, j < 8 → m (t + 1) j = mi (u + 1) j) → (∀ j, j < 8 → m (t + 2) j = mi (u + 2) j) → (∀ i, i < n → ∀ f, f < 5 → m (t + 9 + i) f = mi (u + 9 + i) f) → MW X fX5_takeAfter (rmOf 1 0 0) 0 0 61 [some (rf X t), some (rf X u), none] [] S m (mQ X 0 0 (fun r S' m => r = none ∧ S' = cpS S t u 14 ∧ (∀ a, a < t ∨ t + 17 ≤ a → m a = mi a) ∧ eqOn (26 + 5 * n) (tv m t) (tv mi u) ∧ ∀ j, j < 3 → m (t + 5) j = mi (u + 5) j)) := by
    intro m hm h1 h2 h3
    have eu : m u = mi u := hm u (by omega)
    have nut : u ≠ t := by omega
    refine mw_aload_n dX5_takeAfter_61 rfl ?_
    refine mw_aload_n dX5_takeAfter_62 rfl ?_
    refine mw_geti dX5_takeAfter_63 fl_X5_59 rfl (by assumption) ?_
    refine mw_puti dX5_takeAfter_66 fl_X5_59 ft_5_3 rfl (rfl) rfl (by assumption) ?_
    refine mw_aload_n dX5_takeAfter_69 rfl ?_
    refine mw_aload_n dX5_takeAfter_70 rfl ?_
    refine mw_geti dX5_takeAfter_71 fl_X5_66 rfl (by assumption) ?_
    refine mw_puti dX5_takeAfter_74 fl_X5_66 ft_5_4 rfl (rfl) rfl (by assumption) ?_
    refine mw_aload_n dX5_takeAfter_77 rfl ?_
    refine mw_aload_n dX5_takeAfter_78 rfl ?_
    refine mw_geti dX5_takeAfter_79 fl_X5_24 rfl (by assumption) ?_
    refine mw_puti dX5_takeAfter_82 fl_X5_24 ft_5_5 rfl (rfl) rfl (by assumption) ?_
    refine mw_aload_n dX5_takeAfter_85 rfl ?_
    refine mw_aload_n dX5_takeAfter_86 rfl ?_
    refine mw_geti dX5_takeAfter_87 fl_X5_69 rfl (by assumption) ?_
    refine mw_puti dX5_takeAfter_90 fl_X5_69 ft_5_6 rfl (rfl) rfl (by assumption) ?_
    refine mw_aload_n dX5_takeAfter_93 rfl ?_
    refine mw_aload_n dX5_takeAfter_94 rfl ?_
    refine mw_geti dX5_takeAfter_95 fl_X5_28 rfl (by assumption) ?_
    refine mw_puti dX5_takeAfter_98 fl_X5_28 ft_5_7 rfl (rfl) rfl (by assumption) ?_
    refine mw_aload_n dX5_takeAfter_101 rfl ?_
    refine mw_aload_n dX5_takeAfter_102 rfl ?_
    refine mw_geti dX5_takeAfter_103 fl_X5_72 rfl (by assumption) ?_
    refine mw_puti dX5_takeAfter_106 fl_X5_72 ft_5_8 rfl (rfl) rfl (by assumption) ?_
    refine mw_aload_n dX5_takeAfter_109 rfl ?_
    refine mw_aload_n dX5_takeAfter_110 rfl ?_
    refine mw_geti dX5_takeAfter_111 fl_X5_75 rfl (by assumption) ?_
    refine mw_puti dX5_takeAfter_114 fl_X5_75 ft_5_9 rfl (rfl) rfl (by assumption) ?_
    refine mw_aload_n dX5_takeAfter_117 rfl ?_
    refine mw_aload_n dX5_takeAfter_118 rfl ?_
    refine mw_geti dX5_takeAfter_119 fl_X5_78 rfl (by assumption) ?_
    refine mw_puti dX5_takeAfter_122 fl_X5_78 ft_5_10 rfl (rfl) rfl (by assumption) ?_
    refine mw_aload_n dX5_takeAfter_125 rfl ?_
    refine mw_aload_n dX5_takeAfter_126 rfl ?_
    refine mw_geti dX5_takeAfter_127 fl_X5_31 rfl (by assumption) ?_
    refine mw_puti dX5_takeAfter_130 fl_X5_31 ft_5_11 rfl (rfl) rfl (by assumption) ?_
    refine mw_iconst (v := 0) dX5_takeAfter_133 (by decide) ?_
    refine mw_istN 2 dX5_takeAfter_134 rfl (by decide) ?_
    refine MW.sub (by simp [lsub, nI_0]) (s135 _ (fun a ha => by simp only [m_up_ne (show a ≠ t by omega)]; exact hm a ha) (fun j hj => by simp only [m_up_ne (show t + 1 ≠ t by omega)]; exact h1 j hj) (fun j hj => by simp only [m_up_ne (show t + 2 ≠ t by omega)]; exact h2 j hj) (fun i hi f hf => by simp only [m_up_ne (show t + 9 + i ≠ t by omega)]; exact h3 i hi f hf) (fun j hj h13 => ?_))
    simp only [m_up_ne nut, eu]
    have : j = 0 ∨ j = 1 ∨ j = 2 ∨ j = 3 ∨ j = 4 ∨ j = 5 ∨ j = 6 ∨ j = 7 ∨ j = 8 ∨ j = 9 := by omega
    rcases this with rfl | rfl | rfl | rfl | rfl | rfl | rfl | rfl | rfl | rfl <;> first | exact absurd rfl h13 | simp [m_up, tvF]
  have m1e : ∀ a, a ≠ t + 1 → a ≠ t + 2 → m_cpy (m_cpy mi (u + 1) (t + 1) 0 0 8) (u + 2) (t + 2) 0 0 8 a = mi a := fun a g1 g2 => by funext j; simp [m_cpy, g1, g2]
  have lp := mw_dn (P := fun k => ∀ m, (∀ a, a < t ∨ t + 17 ≤ a → m a = mi a) → (∀ j, j < 8 → m (t + 1) j = mi (u + 1) j) → (∀ j, j < 8 → m (t + 2) j = mi (u + 2) j) → (∀ i, i < k → ∀ f, f < 5 → m (t + 9 + i) f = mi (u + 9 + i) f) → MW X fX5_takeAfter (rmOf 1 0 0) 0 0 32 [some (rf X t), some (rf X u), some (.int (nI k))] [] S m (mQ X 0 0 (fun r S' m => r = none ∧ S' = cpS S t u 14 ∧ (∀ a, a < t ∨ t + 17 ≤ a → m a = mi a) ∧ eqOn (26 + 5 * n) (tv m t) (tv mi u) ∧ ∀ j, j < 3 → m (t + 5) j = mi (u + 5) j))) n (by
    intro m hm h1 h2 h3
    have ec : m u 3 = nI n := by rw [hm u (by omega)]; exact hn
    refine mw_iload_n dX5_takeAfter_32 rfl ?_
    refine mw_aload_n dX5_takeAfter_33 rfl ?_
    refine mw_geti dX5_takeAfter_34 fl_X5_59 rfl (by assumption) ?_
    rw [ec]
    refine mw_icmp_ge (tgt := 61) dX5_takeAfter_37 (by decide) (fun h37 => ?_) (fun h37 => ?_)
    · skip
      exact MW.sub (by simp [lsub]) (s61 m hm h1 h2 h3)
    · skip
      exact absurd (Int32.le_refl _) h37) (fun k hk ih => by
    intro m hm h1 h2 h3
    have ec : m u 3 = nI n := by rw [hm u (by omega)]; exact hn
    have hka := (a_t k (by omega)).2
    have hkb := (a_u k (by omega)).2
    have eb : m (u + 9 + k) = mi (u + 9 + k) := hm _ (by omega)
    refine mw_iload_n dX5_takeAfter_32 rfl ?_
    refine mw_aload_n dX5_takeAfter_33 rfl ?_
    refine mw_geti dX5_takeAfter_34 fl_X5_59 rfl (by assumption) ?_
    rw [ec]
    refine mw_icmp_ge (tgt := 61) dX5_takeAfter_37 (by decide) (fun h37 => ?_) (fun h37 => ?_)
    · skip
      exact absurd h37 (nI_ge hk (by omega))
    · skip
      refine mw_aload_n dX5_takeAfter_40 rfl ?_
      refine mw_getr dX5_takeAfter_41 fl_X5_20 rfl (by assumption) (by assumption) ?_
      refine mw_iload_n dX5_takeAfter_44 rfl ?_
      refine mw_aldK (k := k) dX5_takeAfter_45 (by assumption) (by decide) (rfl) (by omega) (by decide) ((a_t k (by omega)).1) ?_
      refine mw_aload_n dX5_takeAfter_46 rfl ?_
      refine mw_getr dX5_takeAfter_47 fl_X5_20 rfl (by assumption) (by assumption) ?_
      refine mw_iload_n dX5_takeAfter_50 rfl ?_
      refine mw_aldK (k := k) dX5_takeAfter_51 (by assumption) (by decide) (rfl) (by omega) (by decide) ((a_u k (by omega)).1) ?_
      refine mw_cVV (g := fX0_takeAfter) dX5_takeAfter_52 ml_X5_62 mfX0_takeAfter (ok_X0_takeAfter hka hkb (by omega)) (hka) rfl rfl (Nat.le_of_ble_eq_true rfl) ⟨by decide, by decide⟩ ⟨by decide, by decide⟩ ?_
      refine mw_iincK (k := k) dX5_takeAfter_55 rfl rfl (by decide) ?_
      refine mw_goto (tgt := 32) dX5_takeAfter_58 (by decide) ?_
      refine MW.sub (by simp [lsub]) (ih _ (fun a ha => by simp only [m_up_ne (show a ≠ t + 9 + k by omega)]; exact hm a ha) (fun j hj => by simp only [m_up_ne (show t + 1 ≠ t + 9 + k by omega)]; exact h1 j hj) (fun j hj => by simp only [m_up_ne (show t + 2 ≠ t + 9 + k by omega)]; exact h2 j hj) (fun i hi f hf => ?_))
      by_cases c : i = k
      · subst c
        rw [eb]
        have : f = 0 ∨ f = 1 ∨ f = 2 ∨ f = 3 ∨ f = 4 := by omega
        rcases this with rfl | rfl | rfl | rfl | rfl <;> simp [m_up]
      · simp only [m_up_ne (show t + 9 + i ≠ t + 9 + k by omega)]; exact h3 i (by omega) f hf)
  refine mw_aload_n dX5_takeAfter_0 rfl ?_
  refine mw_getr dX5_takeAfter_1 fl_X5_9 rfl (by assumption) (by assumption) ?_
  refine mw_iconst (v := 0) dX5_takeAfter_4 (by decide) ?_
  refine mw_aload_n dX5_takeAfter_5 rfl ?_
  refine mw_getr dX5_takeAfter_6 fl_X5_9 rfl (by assumption) (by assumption) ?_
  refine mw_iconst (v := 0) dX5_takeAfter_9 (by decide) ?_
  refine mw_bipush (v := 8) dX5_takeAfter_10 (by decide) ?_
  refine mw_acopy dX5_takeAfter_12 ml_X5_53 (by assumption) (by assumption) (by decide) (by decide) (by decide) (by decide) (by decide) (Nat.le_of_ble_eq_true rfl) ⟨by decide, by decide⟩ ?_
  refine mw_aload_n dX5_takeAfter_15 rfl ?_
  refine mw_getr dX5_takeAfter_16 fl_X5_15 rfl (by assumption) (by assumption) ?_
  refine mw_iconst (v := 0) dX5_takeAfter_19 (by decide) ?_
  refine mw_aload_n dX5_takeAfter_20 rfl ?_
  refine mw_getr dX5_takeAfter_21 fl_X5_15 rfl (by assumption) (by assumption) ?_
  refine mw_iconst (v := 0) dX5_takeAfter_24 (by decide) ?_
  refine mw_bipush (v := 8) dX5_takeAfter_25 (by decide) ?_
  refine mw_acopy dX5_takeAfter_27 ml_X5_53 (by assumption) (by assumption) (by decide) (by decide) (by decide) (by decide) (by decide) (Nat.le_of_ble_eq_true rfl) ⟨by decide, by decide⟩ ?_
  refine mw_iconst (v := 0) dX5_takeAfter_30 (by decide) ?_
  refine mw_istN 2 dX5_takeAfter_31 rfl (by decide) ?_
  refine MW.sub (by simp [lsub, nI_0]) (lp _ (fun a ha => m1e a (by omega) (by omega)) (fun j hj => ?_) (fun j hj => ?_) (fun i hi => absurd hi (Nat.not_lt_zero i)))
  · simp [m_cpy, hj]
  · simp only [m_cpy]; simp [hj, show u + 2 ≠ t + 1 by omega]
