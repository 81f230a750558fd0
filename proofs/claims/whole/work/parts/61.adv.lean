/-! the tape goes on -/
def PB (S : Sg) (q : Nat) (mi : Mem) (R : Bool × Ps) : Pt3 := fun r' S' m => r' = some (.int (b2i (R.1 = true))) ∧ S' = S ∧ TpS m q R.2 ∧ FrP q mi m
theorem dX3_advance_0 : decode fX3_advance.2.1 0 = .ok (.aload_n 0, 1) := by decide +kernel
theorem dX3_advance_1 : decode fX3_advance.2.1 1 = .ok (.getfield 25, 3) := by decide +kernel
theorem dX3_advance_4 : decode fX3_advance.2.1 4 = .ok (.iconst 1, 1) := by decide +kernel
theorem dX3_advance_5 : decode fX3_advance.2.1 5 = .ok (.if_icmp .eq 11, 3) := by decide +kernel
theorem dX3_advance_8 : decode fX3_advance.2.1 8 = .ok (.aload_n 0, 1) := by decide +kernel
theorem dX3_advance_9 : decode fX3_advance.2.1 9 = .ok (.getfield 25, 3) := by decide +kernel
theorem dX3_advance_12 : decode fX3_advance.2.1 12 = .ok (.iconst 2, 1) := by decide +kernel
theorem dX3_advance_13 : decode fX3_advance.2.1 13 = .ok (.if_icmp .ne 7, 3) := by decide +kernel
theorem dX3_advance_16 : decode fX3_advance.2.1 16 = .ok (.iconst 1, 1) := by decide +kernel
theorem dX3_advance_17 : decode fX3_advance.2.1 17 = .ok (.goto 4, 3) := by decide +kernel
theorem dX3_advance_20 : decode fX3_advance.2.1 20 = .ok (.iconst 0, 1) := by decide +kernel
theorem dX3_advance_21 : decode fX3_advance.2.1 21 = .ok (.istore_n 1, 1) := by decide +kernel
theorem dX3_advance_22 : decode fX3_advance.2.1 22 = .ok (.aload_n 0, 1) := by decide +kernel
theorem dX3_advance_23 : decode fX3_advance.2.1 23 = .ok (.aload_n 0, 1) := by decide +kernel
theorem dX3_advance_24 : decode fX3_advance.2.1 24 = .ok (.getfield 22, 3) := by decide +kernel
theorem dX3_advance_27 : decode fX3_advance.2.1 27 = .ok (.putfield 59, 3) := by decide +kernel
theorem dX3_advance_30 : decode fX3_advance.2.1 30 = .ok (.aload_n 0, 1) := by decide +kernel
theorem dX3_advance_31 : decode fX3_advance.2.1 31 = .ok (.getfield 59, 3) := by decide +kernel
theorem dX3_advance_34 : decode fX3_advance.2.1 34 = .ok (.aload_n 0, 1) := by decide +kernel
theorem dX3_advance_35 : decode fX3_advance.2.1 35 = .ok (.getfield 18, 3) := by decide +kernel
theorem dX3_advance_38 : decode fX3_advance.2.1 38 = .ok (.if_icmp .ge 30, 3) := by decide +kernel
theorem dX3_advance_41 : decode fX3_advance.2.1 41 = .ok (.aload_n 0, 1) := by decide +kernel
theorem dX3_advance_42 : decode fX3_advance.2.1 42 = .ok (.getfield 9, 3) := by decide +kernel
theorem dX3_advance_45 : decode fX3_advance.2.1 45 = .ok (.aload_n 0, 1) := by decide +kernel
theorem dX3_advance_46 : decode fX3_advance.2.1 46 = .ok (.getfield 59, 3) := by decide +kernel
theorem dX3_advance_49 : decode fX3_advance.2.1 49 = .ok (.iaload, 1) := by decide +kernel
theorem dX3_advance_50 : decode fX3_advance.2.1 50 = .ok (.bipush 32, 2) := by decide +kernel
theorem dX3_advance_52 : decode fX3_advance.2.1 52 = .ok (.if_icmp .ne 16, 3) := by decide +kernel
theorem dX3_advance_55 : decode fX3_advance.2.1 55 = .ok (.aload_n 0, 1) := by decide +kernel
theorem dX3_advance_56 : decode fX3_advance.2.1 56 = .ok (.dup, 1) := by decide +kernel
theorem dX3_advance_57 : decode fX3_advance.2.1 57 = .ok (.getfield 59, 3) := by decide +kernel
theorem dX3_advance_60 : decode fX3_advance.2.1 60 = .ok (.iconst 1, 1) := by decide +kernel
theorem dX3_advance_61 : decode fX3_advance.2.1 61 = .ok (.iadd, 1) := by decide +kernel
theorem dX3_advance_62 : decode fX3_advance.2.1 62 = .ok (.putfield 59, 3) := by decide +kernel
theorem dX3_advance_65 : decode fX3_advance.2.1 65 = .ok (.goto (-35), 3) := by decide +kernel
theorem dX3_advance_68 : decode fX3_advance.2.1 68 = .ok (.aload_n 0, 1) := by decide +kernel
theorem dX3_advance_69 : decode fX3_advance.2.1 69 = .ok (.getfield 59, 3) := by decide +kernel
theorem dX3_advance_72 : decode fX3_advance.2.1 72 = .ok (.aload_n 0, 1) := by decide +kernel
theorem dX3_advance_73 : decode fX3_advance.2.1 73 = .ok (.getfield 22, 3) := by decide +kernel
theorem dX3_advance_76 : decode fX3_advance.2.1 76 = .ok (.if_icmp .ne 7, 3) := by decide +kernel
theorem dX3_advance_79 : decode fX3_advance.2.1 79 = .ok (.iconst 1, 1) := by decide +kernel
theorem dX3_advance_80 : decode fX3_advance.2.1 80 = .ok (.goto 4, 3) := by decide +kernel
theorem dX3_advance_83 : decode fX3_advance.2.1 83 = .ok (.iconst 0, 1) := by decide +kernel
theorem dX3_advance_84 : decode fX3_advance.2.1 84 = .ok (.istore_n 2, 1) := by decide +kernel
theorem dX3_advance_85 : decode fX3_advance.2.1 85 = .ok (.aload_n 0, 1) := by decide +kernel
theorem dX3_advance_86 : decode fX3_advance.2.1 86 = .ok (.aload_n 0, 1) := by decide +kernel
theorem dX3_advance_87 : decode fX3_advance.2.1 87 = .ok (.aload_n 0, 1) := by decide +kernel
theorem dX3_advance_88 : decode fX3_advance.2.1 88 = .ok (.getfield 59, 3) := by decide +kernel
theorem dX3_advance_91 : decode fX3_advance.2.1 91 = .ok (.invokevirtual 62, 3) := by decide +kernel
theorem dX3_advance_94 : decode fX3_advance.2.1 94 = .ok (.putfield 25, 3) := by decide +kernel
theorem dX3_advance_97 : decode fX3_advance.2.1 97 = .ok (.aload_n 0, 1) := by decide +kernel
theorem dX3_advance_98 : decode fX3_advance.2.1 98 = .ok (.aload_n 0, 1) := by decide +kernel
theorem dX3_advance_99 : decode fX3_advance.2.1 99 = .ok (.getfield 59, 3) := by decide +kernel
theorem dX3_advance_102 : decode fX3_advance.2.1 102 = .ok (.putfield 22, 3) := by decide +kernel
theorem dX3_advance_105 : decode fX3_advance.2.1 105 = .ok (.aload_n 0, 1) := by decide +kernel
theorem dX3_advance_106 : decode fX3_advance.2.1 106 = .ok (.getfield 25, 3) := by decide +kernel
theorem dX3_advance_109 : decode fX3_advance.2.1 109 = .ok (.iconst 3, 1) := by decide +kernel
theorem dX3_advance_110 : decode fX3_advance.2.1 110 = .ok (.if_icmp .ne 16, 3) := by decide +kernel
theorem dX3_advance_113 : decode fX3_advance.2.1 113 = .ok (.aload_n 0, 1) := by decide +kernel
theorem dX3_advance_114 : decode fX3_advance.2.1 114 = .ok (.dup, 1) := by decide +kernel
theorem dX3_advance_115 : decode fX3_advance.2.1 115 = .ok (.getfield 22, 3) := by decide +kernel
theorem dX3_advance_118 : decode fX3_advance.2.1 118 = .ok (.iconst 1, 1) := by decide +kernel
theorem dX3_advance_119 : decode fX3_advance.2.1 119 = .ok (.iadd, 1) := by decide +kernel
theorem dX3_advance_120 : decode fX3_advance.2.1 120 = .ok (.putfield 22, 3) := by decide +kernel
theorem dX3_advance_123 : decode fX3_advance.2.1 123 = .ok (.goto 62, 3) := by decide +kernel
theorem dX3_advance_126 : decode fX3_advance.2.1 126 = .ok (.aload_n 0, 1) := by decide +kernel
theorem dX3_advance_127 : decode fX3_advance.2.1 127 = .ok (.getfield 25, 3) := by decide +kernel
theorem dX3_advance_130 : decode fX3_advance.2.1 130 = .ok (.ifCond .eq 55, 3) := by decide +kernel
theorem dX3_advance_133 : decode fX3_advance.2.1 133 = .ok (.aload_n 0, 1) := by decide +kernel
theorem dX3_advance_134 : decode fX3_advance.2.1 134 = .ok (.getfield 22, 3) := by decide +kernel
theorem dX3_advance_137 : decode fX3_advance.2.1 137 = .ok (.aload_n 0, 1) := by decide +kernel
theorem dX3_advance_138 : decode fX3_advance.2.1 138 = .ok (.getfield 18, 3) := by decide +kernel
theorem dX3_advance_141 : decode fX3_advance.2.1 141 = .ok (.if_icmp .ge 31, 3) := by decide +kernel
theorem dX3_advance_144 : decode fX3_advance.2.1 144 = .ok (.aload_n 0, 1) := by decide +kernel
theorem dX3_advance_145 : decode fX3_advance.2.1 145 = .ok (.aload_n 0, 1) := by decide +kernel
theorem dX3_advance_146 : decode fX3_advance.2.1 146 = .ok (.getfield 22, 3) := by decide +kernel
theorem dX3_advance_149 : decode fX3_advance.2.1 149 = .ok (.invokevirtual 62, 3) := by decide +kernel
theorem dX3_advance_152 : decode fX3_advance.2.1 152 = .ok (.aload_n 0, 1) := by decide +kernel
theorem dX3_advance_153 : decode fX3_advance.2.1 153 = .ok (.getfield 25, 3) := by decide +kernel
theorem dX3_advance_156 : decode fX3_advance.2.1 156 = .ok (.if_icmp .ne 16, 3) := by decide +kernel
theorem dX3_advance_159 : decode fX3_advance.2.1 159 = .ok (.aload_n 0, 1) := by decide +kernel
theorem dX3_advance_160 : decode fX3_advance.2.1 160 = .ok (.dup, 1) := by decide +kernel
theorem dX3_advance_161 : decode fX3_advance.2.1 161 = .ok (.getfield 22, 3) := by decide +kernel
theorem dX3_advance_164 : decode fX3_advance.2.1 164 = .ok (.iconst 1, 1) := by decide +kernel
theorem dX3_advance_165 : decode fX3_advance.2.1 165 = .ok (.iadd, 1) := by decide +kernel
theorem dX3_advance_166 : decode fX3_advance.2.1 166 = .ok (.putfield 22, 3) := by decide +kernel
theorem dX3_advance_169 : decode fX3_advance.2.1 169 = .ok (.goto (-36), 3) := by decide +kernel
theorem dX3_advance_172 : decode fX3_advance.2.1 172 = .ok (.iload_n 1, 1) := by decide +kernel
theorem dX3_advance_173 : decode fX3_advance.2.1 173 = .ok (.ifCond .eq 12, 3) := by decide +kernel
theorem dX3_advance_176 : decode fX3_advance.2.1 176 = .ok (.iload_n 2, 1) := by decide +kernel
theorem dX3_advance_177 : decode fX3_advance.2.1 177 = .ok (.ifCond .eq 8, 3) := by decide +kernel
theorem dX3_advance_180 : decode fX3_advance.2.1 180 = .ok (.aload_n 0, 1) := by decide +kernel
theorem dX3_advance_181 : decode fX3_advance.2.1 181 = .ok (.iconst 4, 1) := by decide +kernel
theorem dX3_advance_182 : decode fX3_advance.2.1 182 = .ok (.putfield 25, 3) := by decide +kernel
theorem dX3_advance_185 : decode fX3_advance.2.1 185 = .ok (.return_, 1) := by decide +kernel
set_option maxRecDepth 100000 in
set_option maxHeartbeats 4000000 in
theorem ok_X3_advT {X : Xb} {S : Sg} {mi : Mem} {q len bg0 e s0 : Nat} {b : Nat → Int32} {T : (Nat × Nat × Nat) × List Int32} (hT : TpA S q) (hB : TpB mi q b len) (hS : TpS mi q ((bg0, e, s0), T)) (p2 : e ≤ len) (p3 : s0 ≤ 4) (p7 : len ≤ 96) : Ok 1 0 0 fX3_advance X [rf X q] S mi (PP S q mi none (adv b len ((bg0, e, s0), T))) := by
  refine Ok.go [some (rf X q), none, none] (by decide) (by simp [Value.category]) (Nat.le_of_ble_eq_true rfl) rfl ?_
  obtain ⟨k_q, ⟨r_q_bytes, k_q_bytes⟩, ⟨r_q_steps, k_q_steps⟩⟩ := id hT
  generalize hbg : skB b len (len - e) e = bg
  have gb := skB_le (b := b) (len := len) (len - e) e p2
  rw [hbg] at gb
  have hadv : adv b len ((bg0, e, s0), T) = (advS b len (isW s0) e bg, T) := by rw [adv, hbg]
  have s172 : ∀ (wi ni : Int32) en s m, ((wi = 1 ∧ isW s0 = true) ∨ (wi = 0 ∧ isW s0 = false)) → ((ni = 1 ∧ bg = e) ∨ (ni = 0 ∧ bg ≠ e)) → srtN b len bg = s → s ≠ 3 → s ≠ 0 → skW b len s (len - bg) bg = en → TpS m q ((bg, en, s), T) → FrP q mi m → MW X fX3_advance (rmOf 1 0 0) 0 0 172 [some (rf X q), some (.int wi), some (.int ni)] [] S m (mQ X 0 0 (PP S q mi none (adv b len ((bg0, e, s0), T)))) := by
    intro wi ni en s m hw hn hs h3 h0 hen hm hF
    have ha : advS b len (isW s0) e bg = (bg, en, if (isW s0 && decide (bg = e)) = true then 4 else s) := by rw [advS, hs, if_neg h3, if_neg h0, hen]
    refine mw_iload_n dX3_advance_172 rfl ?_
    refine mw_if_eq (tgt := 185) dX3_advance_173 (by decide) (fun h173 => ?_) (fun h173 => ?_)
    · skip
      exact mw_vret dX3_advance_185 rfl (by decide) (by decide) (by first | (have c1 : isW s0 = true := (by rcases hw with g | g; exact g.2; exact absurd g.1 h173); have c2 : bg = e := (by rcases hn with g | g; exact g.2; exact absurd g.1 h177); exact ⟨rfl, rfl, by rw [hadv, ha, if_pos (by simp [c1, c2])]; exact hm.u4 (v := 4), hF.up (by decide) (by decide)⟩) | (have c2 : bg ≠ e := (by rcases hn with g | g; exact absurd (g.1.symm.trans h177) (by decide); exact g.2); exact ⟨rfl, rfl, by rw [hadv, ha, if_neg (by simp [c2])]; exact hm, hF⟩) | (have c1 : isW s0 = false := (by rcases hw with g | g; exact absurd (g.1.symm.trans h173) (by decide); exact g.2); exact ⟨rfl, rfl, by rw [hadv, ha, if_neg (by simp [c1])]; exact hm, hF⟩) | fail "leaf")
    · skip
      refine mw_iload_n dX3_advance_176 rfl ?_
      refine mw_if_eq (tgt := 185) dX3_advance_177 (by decide) (fun h177 => ?_) (fun h177 => ?_)
      · skip
        exact mw_vret dX3_advance_185 rfl (by decide) (by decide) (by first | (have c1 : isW s0 = true := (by rcases hw with g | g; exact g.2; exact absurd g.1 h173); have c2 : bg = e := (by rcases hn with g | g; exact g.2; exact absurd g.1 h177); exact ⟨rfl, rfl, by rw [hadv, ha, if_pos (by simp [c1, c2])]; exact hm.u4 (v := 4), hF.up (by decide) (by decide)⟩) | (have c2 : bg ≠ e := (by rcases hn with g | g; exact absurd (g.1.symm.trans h177) (by decide); exact g.2); exact ⟨rfl, rfl, by rw [hadv, ha, if_neg (by simp [c2])]; exact hm, hF⟩) | (have c1 : isW s0 = false := (by rcases hw with g | g; exact absurd (g.1.symm.trans h173) (by decide); exact g.2); exact ⟨rfl, rfl, by rw [hadv, ha, if_neg (by simp [c1])]; exact hm, hF⟩) | fail "leaf")
      · skip
        refine mw_aload_n dX3_advance_180 rfl ?_
        refine mw_iconst (v := 4) dX3_advance_181 (by decide) ?_
        refine mw_puti dX3_advance_182 fl_X3_25 ft_3_4 rfl (rfl) rfl (by assumption) ?_
        exact mw_vret dX3_advance_185 rfl (by decide) (by decide) (by first | (have c1 : isW s0 = true := (by rcases hw with g | g; exact g.2; exact absurd g.1 h173); have c2 : bg = e := (by rcases hn with g | g; exact g.2; exact absurd g.1 h177); exact ⟨rfl, rfl, by rw [hadv, ha, if_pos (by simp [c1, c2])]; exact hm.u4 (v := 4), hF.up (by decide) (by decide)⟩) | (have c2 : bg ≠ e := (by rcases hn with g | g; exact absurd (g.1.symm.trans h177) (by decide); exact g.2); exact ⟨rfl, rfl, by rw [hadv, ha, if_neg (by simp [c2])]; exact hm, hF⟩) | (have c1 : isW s0 = false := (by rcases hw with g | g; exact absurd (g.1.symm.trans h173) (by decide); exact g.2); exact ⟨rfl, rfl, by rw [hadv, ha, if_neg (by simp [c1])]; exact hm, hF⟩) | fail "leaf")
  have lp133 : ∀ (wi ni : Int32) en s, ((wi = 1 ∧ isW s0 = true) ∨ (wi = 0 ∧ isW s0 = false)) → ((ni = 1 ∧ bg = e) ∨ (ni = 0 ∧ bg ≠ e)) → srtN b len bg = s → s ≠ 3 → s ≠ 0 → skW b len s (len - bg) bg = en → ∀ f p m, f = len - p → p ≤ len → skW b len s f p = en → TpS m q ((bg, p, s), T) → FrP q mi m → MW X fX3_advance (rmOf 1 0 0) 0 0 133 [some (rf X q), some (.int wi), some (.int ni)] [] S m (mQ X 0 0 (PP S q mi none (adv b len ((bg0, e, s0), T)))) := by
    intro wi ni en s hw hn hs h3 h0 hen f
    have s3 : s ≤ 3 := by rw [← hs]; exact srtN_le _ _ _
    induction f with
    | zero =>
      intro p m hf hp hk hm hF
      have e3 : m q 3 = nI p := hm.2.1
      have e1 : m q 1 = nI len := (hB.fr hF).2
      have hpe : p = en := hk
      refine mw_aload_n dX3_advance_133 rfl ?_
      refine mw_geti dX3_advance_134 fl_X3_22 rfl (by assumption) ?_
      rw [e3]
      refine mw_aload_n dX3_advance_137 rfl ?_
      refine mw_geti dX3_advance_138 fl_X3_18 rfl (by assumption) ?_
      rw [e1]
      refine mw_icmp_ge (tgt := 172) dX3_advance_141 (by decide) (fun h141 => ?_) (fun h141 => ?_)
      · skip
        exact s172 wi ni en s m hw hn hs h3 h0 hen (by rw [← hpe]; exact hm) hF
      · skip
        exact absurd (nI_le (show len ≤ p by omega) (by omega)) h141
    | succ f ih =>
      intro p m hf hp hk hm hF
      have e3 : m q 3 = nI p := hm.2.1
      have e4 : m q 4 = nI s := hm.2.2.1
      have hBm := hB.fr hF
      have e1 : m q 1 = nI len := hBm.2
      have is : nI (srtN b len p) = nI s ↔ srtN b len p = s := nI_eq (by have := srtN_le b len p; omega) (by omega)
      simp only [skW] at hk
      refine mw_aload_n dX3_advance_133 rfl ?_
      refine mw_geti dX3_advance_134 fl_X3_22 rfl (by assumption) ?_
      rw [e3]
      refine mw_aload_n dX3_advance_137 rfl ?_
      refine mw_geti dX3_advance_138 fl_X3_18 rfl (by assumption) ?_
      rw [e1]
      refine mw_icmp_ge (tgt := 172) dX3_advance_141 (by decide) (fun h141 => ?_) (fun h141 => ?_)
      · skip
        first
          | exact absurd h141 (nI_ge (by omega) (by omega))
          | (rw [if_neg (fun g => h156 (is.mpr g.2))] at hk; exact s172 wi ni en s m hw hn hs h3 h0 hen (by rw [← hk]; exact hm) hF)
          | fail "stop"
      · skip
        refine mw_aload_n dX3_advance_144 rfl ?_
        refine mw_aload_n dX3_advance_145 rfl ?_
        refine mw_geti dX3_advance_146 fl_X3_22 rfl (by assumption) ?_
        rw [e3]
        refine mw_cVI (g := fX3_sortAt) dX3_advance_149 ml_X3_62 mfX3_sortAt (ok_X3_sortAt (p := p) hT hBm p7 (by omega)) (by assumption) rfl rfl (Nat.le_of_ble_eq_true rfl) ⟨by decide, by decide⟩ ⟨by decide, by decide⟩ ?_
        refine mw_aload_n dX3_advance_152 rfl ?_
        refine mw_geti dX3_advance_153 fl_X3_25 rfl (by assumption) ?_
        rw [e4]
        refine mw_icmp_ne (tgt := 172) dX3_advance_156 (by decide) (fun h156 => ?_) (fun h156 => ?_)
        · skip
          first
            | exact absurd h141 (nI_ge (by omega) (by omega))
            | (rw [if_neg (fun g => h156 (is.mpr g.2))] at hk; exact s172 wi ni en s m hw hn hs h3 h0 hen (by rw [← hk]; exact hm) hF)
            | fail "stop"
        · skip
          refine mw_aload_n dX3_advance_159 rfl ?_
          refine mw_dup dX3_advance_160 rfl ?_
          refine mw_geti dX3_advance_161 fl_X3_22 rfl (by assumption) ?_
          rw [e3]
          refine mw_iconst (v := 1) dX3_advance_164 (by decide) ?_
          refine mw_iadd dX3_advance_165 ?_
          rw [nI_1]
          refine mw_puti dX3_advance_166 fl_X3_22 ft_3_3 rfl (rfl) rfl (by assumption) ?_
          refine mw_goto (tgt := 133) dX3_advance_169 (by decide) ?_
          rw [if_pos (And.intro (show p < len by omega) (is.mp h156))] at hk
          exact ih (p + 1) _ (by omega) (by omega) hk hm.u3 (hF.up (by decide) (by decide))
  have s85 : ∀ (wi ni : Int32) m, ((wi = 1 ∧ isW s0 = true) ∨ (wi = 0 ∧ isW s0 = false)) → ((ni = 1 ∧ bg = e) ∨ (ni = 0 ∧ bg ≠ e)) → TpS m q ((bg, e, s0), T) → FrP q mi m → MW X fX3_advance (rmOf 1 0 0) 0 0 85 [some (rf X q), some (.int wi), some (.int ni)] [] S m (mQ X 0 0 (PP S q mi none (adv b len ((bg0, e, s0), T)))) := by
    intro wi ni m hw hn hm hF
    have hBm := hB.fr hF
    have e2 : m q 2 = nI bg := hm.1
    generalize hs : srtN b len bg = s
    have s3 : s ≤ 3 := by rw [← hs]; exact srtN_le _ _ _
    have k1 : TpS (m_up m q 4 (nI s)) q ((bg, e, s), T) := hm.u4
    have k2 : TpS (m_up (m_up m q 4 (nI s)) q 3 (nI bg)) q ((bg, bg, s), T) := k1.u3
    have f2 : FrP q mi (m_up (m_up m q 4 (nI s)) q 3 (nI bg)) := (hF.up (by decide) (by decide)).up (by decide) (by decide)
    have e2b : m_up m q 4 (nI s) q 2 = nI bg := k1.1
    have e4 : m_up (m_up m q 4 (nI s)) q 3 (nI bg) q 4 = nI s := k2.2.2.1
    have e3 : m_up (m_up m q 4 (nI s)) q 3 (nI bg) q 3 = nI bg := k2.2.1
    refine mw_aload_n dX3_advance_85 rfl ?_
    refine mw_aload_n dX3_advance_86 rfl ?_
    refine mw_aload_n dX3_advance_87 rfl ?_
    refine mw_geti dX3_advance_88 fl_X3_59 rfl (by assumption) ?_
    rw [e2]
    refine mw_cVI (g := fX3_sortAt) dX3_advance_91 ml_X3_62 mfX3_sortAt (ok_X3_sortAt (p := bg) hT hBm p7 (by omega)) (by assumption) rfl rfl (Nat.le_of_ble_eq_true rfl) ⟨by decide, by decide⟩ ⟨by decide, by decide⟩ ?_
    rw [hs]
    refine mw_puti dX3_advance_94 fl_X3_25 ft_3_4 rfl (rfl) rfl (by assumption) ?_
    refine mw_aload_n dX3_advance_97 rfl ?_
    refine mw_aload_n dX3_advance_98 rfl ?_
    refine mw_geti dX3_advance_99 fl_X3_59 rfl (by assumption) ?_
    rw [e2b]
    refine mw_puti dX3_advance_102 fl_X3_22 ft_3_3 rfl (rfl) rfl (by assumption) ?_
    generalize hM : m_up (m_up m q 4 (nI s)) q 3 (nI bg) = M at k2 f2 e3 e4
    refine mw_aload_n dX3_advance_105 rfl ?_
    refine mw_geti dX3_advance_106 fl_X3_25 rfl (by assumption) ?_
    rw [e4]
    refine mw_iconst (v := 3) dX3_advance_109 (by decide) ?_
    refine mw_icmp_ne (tgt := 126) dX3_advance_110 (by decide) (fun h110 => ?_) (fun h110 => ?_)
    · skip
      refine mw_aload_n dX3_advance_126 rfl ?_
      refine mw_geti dX3_advance_127 fl_X3_25 rfl (by assumption) ?_
      rw [e4]
      refine mw_if_eq (tgt := 185) dX3_advance_130 (by decide) (fun h130 => ?_) (fun h130 => ?_)
      · skip
        exact mw_vret dX3_advance_185 rfl (by decide) (by decide) (by first | (have c : s = 3 := (nI_eq (b := 3) (by omega) (by decide)).mp h110; exact ⟨rfl, rfl, by rw [hadv, advS, hs, if_pos c]; rw [c] at k2; exact k2.u3, f2.up (by decide) (by decide)⟩) | (have c : s = 0 := (nI_eq (b := 0) (by omega) (by decide)).mp h130; exact ⟨rfl, rfl, by rw [hadv, advS, hs, if_neg (by omega), if_pos c]; rw [c] at k2; exact k2, f2⟩) | fail "leaf")
      · skip
        exact lp133 wi ni _ s hw hn hs (fun c => h110 (by rw [c]; rfl)) (fun c => h130 (by rw [c]; rfl)) rfl (len - bg) bg _ rfl gb.2 rfl k2 f2
    · skip
      refine mw_aload_n dX3_advance_113 rfl ?_
      refine mw_dup dX3_advance_114 rfl ?_
      refine mw_geti dX3_advance_115 fl_X3_22 rfl (by assumption) ?_
      rw [e3]
      refine mw_iconst (v := 1) dX3_advance_118 (by decide) ?_
      refine mw_iadd dX3_advance_119 ?_
      rw [nI_1]
      refine mw_puti dX3_advance_120 fl_X3_22 ft_3_3 rfl (rfl) rfl (by assumption) ?_
      refine mw_goto (tgt := 185) dX3_advance_123 (by decide) ?_
      exact mw_vret dX3_advance_185 rfl (by decide) (by decide) (by first | (have c : s = 3 := (nI_eq (b := 3) (by omega) (by decide)).mp h110; exact ⟨rfl, rfl, by rw [hadv, advS, hs, if_pos c]; rw [c] at k2; exact k2.u3, f2.up (by decide) (by decide)⟩) | (have c : s = 0 := (nI_eq (b := 0) (by omega) (by decide)).mp h130; exact ⟨rfl, rfl, by rw [hadv, advS, hs, if_neg (by omega), if_pos c]; rw [c] at k2; exact k2, f2⟩) | fail "leaf")
  have s68 : ∀ (wi : Int32) m, ((wi = 1 ∧ isW s0 = true) ∨ (wi = 0 ∧ isW s0 = false)) → TpS m q ((bg, e, s0), T) → FrP q mi m → MW X fX3_advance (rmOf 1 0 0) 0 0 68 [some (rf X q), some (.int wi), none] [] S m (mQ X 0 0 (PP S q mi none (adv b len ((bg0, e, s0), T)))) := by
    intro wi m hw hm hF
    have e2 : m q 2 = nI bg := hm.1
    have e3 : m q 3 = nI e := hm.2.1
    have ie : nI bg = nI e ↔ bg = e := nI_eq (by omega) (by omega)
    refine mw_aload_n dX3_advance_68 rfl ?_
    refine mw_geti dX3_advance_69 fl_X3_59 rfl (by assumption) ?_
    rw [e2]
    refine mw_aload_n dX3_advance_72 rfl ?_
    refine mw_geti dX3_advance_73 fl_X3_22 rfl (by assumption) ?_
    rw [e3]
    refine mw_icmp_ne (tgt := 83) dX3_advance_76 (by decide) (fun h76 => ?_) (fun h76 => ?_)
    · skip
      refine mw_iconst (v := 0) dX3_advance_83 (by decide) ?_
      refine mw_istN 2 dX3_advance_84 rfl (by decide) ?_
      first
        | exact s85 wi 0 m hw (Or.inr ⟨rfl, fun c => h76 (ie.mpr c)⟩) hm hF
        | exact s85 wi 1 m hw (Or.inl ⟨rfl, ie.mp h76⟩) hm hF
        | fail "stop"
    · skip
      refine mw_iconst (v := 1) dX3_advance_79 (by decide) ?_
      refine mw_goto (tgt := 84) dX3_advance_80 (by decide) ?_
      refine mw_istN 2 dX3_advance_84 rfl (by decide) ?_
      first
        | exact s85 wi 0 m hw (Or.inr ⟨rfl, fun c => h76 (ie.mpr c)⟩) hm hF
        | exact s85 wi 1 m hw (Or.inl ⟨rfl, ie.mp h76⟩) hm hF
        | fail "stop"
  have lp30 : ∀ (wi : Int32), ((wi = 1 ∧ isW s0 = true) ∨ (wi = 0 ∧ isW s0 = false)) → ∀ f p m, f = len - p → p ≤ len → skB b len f p = bg → TpS m q ((p, e, s0), T) → FrP q mi m → MW X fX3_advance (rmOf 1 0 0) 0 0 30 [some (rf X q), some (.int wi), none] [] S m (mQ X 0 0 (PP S q mi none (adv b len ((bg0, e, s0), T)))) := by
    intro wi hw f
    induction f with
    | zero =>
      intro p m hf hp hk hm hF
      have e2 : m q 2 = nI p := hm.1
      have e1 : m q 1 = nI len := (hB.fr hF).2
      have hpe : p = bg := hk
      refine mw_aload_n dX3_advance_30 rfl ?_
      refine mw_geti dX3_advance_31 fl_X3_59 rfl (by assumption) ?_
      rw [e2]
      refine mw_aload_n dX3_advance_34 rfl ?_
      refine mw_geti dX3_advance_35 fl_X3_18 rfl (by assumption) ?_
      rw [e1]
      refine mw_icmp_ge (tgt := 68) dX3_advance_38 (by decide) (fun h38 => ?_) (fun h38 => ?_)
      · skip
        exact s68 wi m hw (by rw [← hpe]; exact hm) hF
      · skip
        exact absurd (nI_le (show len ≤ p by omega) (by omega)) h38
    | succ f ih =>
      intro p m hf hp hk hm hF
      have e2 : m q 2 = nI p := hm.1
      have hBm := hB.fr hF
      have e1 : m q 1 = nI len := hBm.2
      have eb : m (q + 1) p = b p := by rw [hBm.1]
      simp only [skB] at hk
      refine mw_aload_n dX3_advance_30 rfl ?_
      refine mw_geti dX3_advance_31 fl_X3_59 rfl (by assumption) ?_
      rw [e2]
      refine mw_aload_n dX3_advance_34 rfl ?_
      refine mw_geti dX3_advance_35 fl_X3_18 rfl (by assumption) ?_
      rw [e1]
      refine mw_icmp_ge (tgt := 68) dX3_advance_38 (by decide) (fun h38 => ?_) (fun h38 => ?_)
      · skip
        first
          | exact absurd h38 (nI_ge (by omega) (by omega))
          | (rw [if_neg (fun g => h52 g.2)] at hk; exact s68 wi m hw (by rw [← hk]; exact hm) hF)
          | fail "stop"
      · skip
        refine mw_aload_n dX3_advance_41 rfl ?_
        refine mw_getr dX3_advance_42 fl_X3_9 rfl (by assumption) (by assumption) ?_
        refine mw_aload_n dX3_advance_45 rfl ?_
        refine mw_geti dX3_advance_46 fl_X3_59 rfl (by assumption) ?_
        rw [e2]
        refine mw_ialdK (k := p) dX3_advance_49 (by assumption) (rfl) (by omega) (by decide) ?_
        rw [eb]
        refine mw_bipush (v := 32) dX3_advance_50 (by decide) ?_
        refine mw_icmp_ne (tgt := 68) dX3_advance_52 (by decide) (fun h52 => ?_) (fun h52 => ?_)
        · skip
          first
            | exact absurd h38 (nI_ge (by omega) (by omega))
            | (rw [if_neg (fun g => h52 g.2)] at hk; exact s68 wi m hw (by rw [← hk]; exact hm) hF)
            | fail "stop"
        · skip
          refine mw_aload_n dX3_advance_55 rfl ?_
          refine mw_dup dX3_advance_56 rfl ?_
          refine mw_geti dX3_advance_57 fl_X3_59 rfl (by assumption) ?_
          rw [e2]
          refine mw_iconst (v := 1) dX3_advance_60 (by decide) ?_
          refine mw_iadd dX3_advance_61 ?_
          rw [nI_1]
          refine mw_puti dX3_advance_62 fl_X3_59 ft_3_2 rfl (rfl) rfl (by assumption) ?_
          refine mw_goto (tgt := 30) dX3_advance_65 (by decide) ?_
          rw [if_pos (And.intro (show p < len by omega) h52)] at hk
          exact ih (p + 1) _ (by omega) (by omega) hk hm.u2 (hF.up (by decide) (by decide))
  have e3 : mi q 3 = nI e := hS.2.1
  have e4 : mi q 4 = nI s0 := hS.2.2.1
  have i1 : nI s0 = 1 ↔ s0 = 1 := nI_eq (b := 1) (by omega) (by decide)
  have i2 : nI s0 = 2 ↔ s0 = 2 := nI_eq (b := 2) (by omega) (by decide)
  refine mw_aload_n dX3_advance_0 rfl ?_
  refine mw_geti dX3_advance_1 fl_X3_25 rfl (by assumption) ?_
  rw [e4]
  refine mw_iconst (v := 1) dX3_advance_4 (by decide) ?_
  refine mw_icmp_eq (tgt := 16) dX3_advance_5 (by decide) (fun h5 => ?_) (fun h5 => ?_)
  · skip
    refine mw_iconst (v := 1) dX3_advance_16 (by decide) ?_
    refine mw_goto (tgt := 21) dX3_advance_17 (by decide) ?_
    refine mw_istN 1 dX3_advance_21 rfl (by decide) ?_
    refine mw_aload_n dX3_advance_22 rfl ?_
    refine mw_aload_n dX3_advance_23 rfl ?_
    refine mw_geti dX3_advance_24 fl_X3_22 rfl (by assumption) ?_
    rw [e3]
    refine mw_puti dX3_advance_27 fl_X3_59 ft_3_2 rfl (rfl) rfl (by assumption) ?_
    first
      | (have c : s0 = 1 := i1.mp h5; exact lp30 1 (Or.inl ⟨rfl, by simp [isW, c]⟩) (len - e) e _ rfl p2 hbg hS.u2 ((FrP.rf _ _).up (by decide) (by decide)))
      | (have c : s0 = 2 := i2.mp h13; exact lp30 1 (Or.inl ⟨rfl, by simp [isW, c]⟩) (len - e) e _ rfl p2 hbg hS.u2 ((FrP.rf _ _).up (by decide) (by decide)))
      | (have c : ¬ s0 = 2 := fun g => h13 (i2.mpr g); have c' : ¬ s0 = 1 := fun g => h5 (i1.mpr g); exact lp30 0 (Or.inr ⟨rfl, by simp [isW, c, c']⟩) (len - e) e _ rfl p2 hbg hS.u2 ((FrP.rf _ _).up (by decide) (by decide)))
      | fail "stop"
  · skip
    refine mw_aload_n dX3_advance_8 rfl ?_
    refine mw_geti dX3_advance_9 fl_X3_25 rfl (by assumption) ?_
    rw [e4]
    refine mw_iconst (v := 2) dX3_advance_12 (by decide) ?_
    refine mw_icmp_ne (tgt := 20) dX3_advance_13 (by decide) (fun h13 => ?_) (fun h13 => ?_)
    · skip
      refine mw_iconst (v := 0) dX3_advance_20 (by decide) ?_
      refine mw_istN 1 dX3_advance_21 rfl (by decide) ?_
      refine mw_aload_n dX3_advance_22 rfl ?_
      refine mw_aload_n dX3_advance_23 rfl ?_
      refine mw_geti dX3_advance_24 fl_X3_22 rfl (by assumption) ?_
      rw [e3]
      refine mw_puti dX3_advance_27 fl_X3_59 ft_3_2 rfl (rfl) rfl (by assumption) ?_
      first
        | (have c : s0 = 1 := i1.mp h5; exact lp30 1 (Or.inl ⟨rfl, by simp [isW, c]⟩) (len - e) e _ rfl p2 hbg hS.u2 ((FrP.rf _ _).up (by decide) (by decide)))
        | (have c : s0 = 2 := i2.mp h13; exact lp30 1 (Or.inl ⟨rfl, by simp [isW, c]⟩) (len - e) e _ rfl p2 hbg hS.u2 ((FrP.rf _ _).up (by decide) (by decide)))
        | (have c : ¬ s0 = 2 := fun g => h13 (i2.mpr g); have c' : ¬ s0 = 1 := fun g => h5 (i1.mpr g); exact lp30 0 (Or.inr ⟨rfl, by simp [isW, c, c']⟩) (len - e) e _ rfl p2 hbg hS.u2 ((FrP.rf _ _).up (by decide) (by decide)))
        | fail "stop"
    · skip
      refine mw_iconst (v := 1) dX3_advance_16 (by decide) ?_
      refine mw_goto (tgt := 21) dX3_advance_17 (by decide) ?_
      refine mw_istN 1 dX3_advance_21 rfl (by decide) ?_
      refine mw_aload_n dX3_advance_22 rfl ?_
      refine mw_aload_n dX3_advance_23 rfl ?_
      refine mw_geti dX3_advance_24 fl_X3_22 rfl (by assumption) ?_
      rw [e3]
      refine mw_puti dX3_advance_27 fl_X3_59 ft_3_2 rfl (rfl) rfl (by assumption) ?_
      first
        | (have c : s0 = 1 := i1.mp h5; exact lp30 1 (Or.inl ⟨rfl, by simp [isW, c]⟩) (len - e) e _ rfl p2 hbg hS.u2 ((FrP.rf _ _).up (by decide) (by decide)))
        | (have c : s0 = 2 := i2.mp h13; exact lp30 1 (Or.inl ⟨rfl, by simp [isW, c]⟩) (len - e) e _ rfl p2 hbg hS.u2 ((FrP.rf _ _).up (by decide) (by decide)))
        | (have c : ¬ s0 = 2 := fun g => h13 (i2.mpr g); have c' : ¬ s0 = 1 := fun g => h5 (i1.mpr g); exact lp30 0 (Or.inr ⟨rfl, by simp [isW, c, c']⟩) (len - e) e _ rfl p2 hbg hS.u2 ((FrP.rf _ _).up (by decide) (by decide)))
        | fail "stop"
set_option maxRecDepth 100000 in
set_option maxHeartbeats 4000000 in
theorem ok_X3_advance {X : Xb} {S : Sg} {mi : Mem} {q len : Nat} {b : Nat → Int32} {P : Ps} (hT : TpA S q) (hB : TpB mi q b len) (hS : TpS mi q P) (hP : Pb len P) : Ok 1 0 0 fX3_advance X [rf X q] S mi (PP S q mi none (adv b len P)) :=
  ok_X3_advT (bg0 := P.1.1) (e := P.1.2.1) (s0 := P.1.2.2) (T := P.2) hT hB hS hP.2.1 hP.2.2.1 hP.2.2.2.2.2.2
def leafP (b : Nat → Int32) (len : Nat) (P : Ps) (v : Int32) : Ps := adv b len (P.1, (P.2.1.1, P.2.1.2.1, P.2.1.2.2 + 1), adC P.2.2 v)
theorem dX3_readLeaf_0 : decode fX3_readLeaf.2.1 0 = .ok (.aload_n 0, 1) := by decide +kernel
theorem dX3_readLeaf_1 : decode fX3_readLeaf.2.1 1 = .ok (.iload_n 1, 1) := by decide +kernel
theorem dX3_readLeaf_2 : decode fX3_readLeaf.2.1 2 = .ok (.invokevirtual 94, 3) := by decide +kernel
theorem dX3_readLeaf_5 : decode fX3_readLeaf.2.1 5 = .ok (.aload_n 0, 1) := by decide +kernel
theorem dX3_readLeaf_6 : decode fX3_readLeaf.2.1 6 = .ok (.dup, 1) := by decide +kernel
theorem dX3_readLeaf_7 : decode fX3_readLeaf.2.1 7 = .ok (.getfield 34, 3) := by decide +kernel
theorem dX3_readLeaf_10 : decode fX3_readLeaf.2.1 10 = .ok (.iconst 1, 1) := by decide +kernel
theorem dX3_readLeaf_11 : decode fX3_readLeaf.2.1 11 = .ok (.iadd, 1) := by decide +kernel
theorem dX3_readLeaf_12 : decode fX3_readLeaf.2.1 12 = .ok (.putfield 34, 3) := by decide +kernel
theorem dX3_readLeaf_15 : decode fX3_readLeaf.2.1 15 = .ok (.aload_n 0, 1) := by decide +kernel
theorem dX3_readLeaf_16 : decode fX3_readLeaf.2.1 16 = .ok (.invokevirtual 40, 3) := by decide +kernel
theorem dX3_readLeaf_19 : decode fX3_readLeaf.2.1 19 = .ok (.iconst 1, 1) := by decide +kernel
theorem dX3_readLeaf_20 : decode fX3_readLeaf.2.1 20 = .ok (.ireturn, 1) := by decide +kernel
set_option maxRecDepth 100000 in
set_option maxHeartbeats 4000000 in
theorem ok_X3_readLeaf {X : Xb} {S : Sg} {mi : Mem} {q len : Nat} {b : Nat → Int32} {P : Ps} {v : Int32} (hT : TpA S q) (hB : TpB mi q b len) (hS : TpS mi q P) (hP : Pb len P) : Ok 2 0 0 fX3_readLeaf X [rf X q, .int v] S mi (PB S q mi (true, leafP b len P v)) := by
  refine Ok.go [some (rf X q), some (.int v)] (by decide) (by simp [Value.category]) (Nat.le_of_ble_eq_true rfl) rfl ?_
  obtain ⟨k_q, ⟨r_q_bytes, k_q_bytes⟩, ⟨r_q_steps, k_q_steps⟩⟩ := id hT
  refine mw_aload_n dX3_readLeaf_0 rfl ?_
  refine mw_iload_n dX3_readLeaf_1 rfl ?_
  refine mw_callV (g := fX3_addStep) dX3_readLeaf_2 ml_X3_94 mfX3_addStep (ok_X3_addStep hT hS hP) (k_q) rfl rfl (Nat.le_of_ble_eq_true rfl) ⟨by decide, by decide⟩ ⟨by decide, by decide⟩ (fun r S2 mi2 hp => ?_)
  obtain ⟨rfl, e1, h1, f1⟩ := hp
  rw [e1]
  have e8 : mi2 q 8 = nI P.2.1.2.2 := h1.2.2.2.2.2.1
  have k1 := h1.u8 (v := P.2.1.2.2 + 1)
  have hP1 : Pb len (P.1, (P.2.1.1, P.2.1.2.1, P.2.1.2.2 + 1), adC P.2.2 v) := by
    have g := pb_adP (v := v) hP
    exact ⟨g.1, g.2.1, g.2.2.1, g.2.2.2.1, g.2.2.2.2.1, g.2.2.2.2.2.1, g.2.2.2.2.2.2⟩
  have f2 : FrP q mi (m_up mi2 q 8 (nI (P.2.1.2.2 + 1))) := f1.up (by decide) (by decide)
  refine mw_aload_n dX3_readLeaf_5 rfl ?_
  refine mw_dup dX3_readLeaf_6 rfl ?_
  refine mw_geti dX3_readLeaf_7 fl_X3_34 rfl (by assumption) ?_
  rw [e8]
  refine mw_iconst (v := 1) dX3_readLeaf_10 (by decide) ?_
  refine mw_iadd dX3_readLeaf_11 ?_
  rw [nI_1]
  refine mw_puti dX3_readLeaf_12 fl_X3_34 ft_3_8 rfl (rfl) rfl (by assumption) ?_
  refine mw_aload_n dX3_readLeaf_15 rfl ?_
  refine mw_callV (g := fX3_advance) dX3_readLeaf_16 ml_X3_40 mfX3_advance (ok_X3_advance hT (hB.fr f2) k1 hP1) k_q rfl rfl (Nat.le_of_ble_eq_true rfl) ⟨by decide, by decide⟩ ⟨by decide, by decide⟩ (fun r S3 mi3 hp => ?_)
  obtain ⟨rfl, e2, h3, f3⟩ := hp
  rw [e2]
  refine mw_iconst (v := 1) dX3_readLeaf_19 (by decide) ?_
  exact mw_bret dX3_readLeaf_20 rfl (by first | exact Or.inl rfl | exact Or.inr rfl | exact b2i_01) (by decide) (by decide) (⟨rfl, rfl, h3, f2.tr f3⟩)
