/-! the model's tape: words and signs -/
def TpM (mi : Mem) (o : Nat) (b : Nat → Int32) (len : Nat) : Prop := mi (o + 6) = b ∧ mi o 7 = nI len
theorem srt_1 {b : Nat → Int32} {len p : Nat} : srtN b len p = 1 ↔ (p < len ∧ 97 ≤ b p ∧ b p ≤ 122) := by
  unfold srtN
  constructor
  · intro h
    split at h
    · rename_i g
      split at h
      · rename_i g2; exact ⟨g, g2⟩
      · split at h <;> simp at h
    · simp at h
  · rintro ⟨h1, h2⟩
    rw [if_pos h1, if_pos h2]
theorem srt_2 {b : Nat → Int32} {len p : Nat} : srtN b len p = 2 ↔ (p < len ∧ 48 ≤ b p ∧ b p ≤ 57) := by
  unfold srtN
  constructor
  · intro h
    split at h
    · rename_i g
      split at h
      · simp at h
      · split at h
        · rename_i g2; exact ⟨g, g2⟩
        · simp at h
    · simp at h
  · rintro ⟨h1, h2⟩
    rw [if_pos h1, if_neg (fun g => absurd (Int32.le_trans g.1 h2.2) (by decide)), if_pos h2]
theorem dX7_isLetter_0 : decode fX7_isLetter.2.1 0 = .ok (.iload_n 1, 1) := by decide +kernel
theorem dX7_isLetter_1 : decode fX7_isLetter.2.1 1 = .ok (.aload_n 0, 1) := by decide +kernel
theorem dX7_isLetter_2 : decode fX7_isLetter.2.1 2 = .ok (.getfield 194, 3) := by decide +kernel
theorem dX7_isLetter_5 : decode fX7_isLetter.2.1 5 = .ok (.if_icmp .ge 29, 3) := by decide +kernel
theorem dX7_isLetter_8 : decode fX7_isLetter.2.1 8 = .ok (.aload_n 0, 1) := by decide +kernel
theorem dX7_isLetter_9 : decode fX7_isLetter.2.1 9 = .ok (.getfield 25, 3) := by decide +kernel
theorem dX7_isLetter_12 : decode fX7_isLetter.2.1 12 = .ok (.iload_n 1, 1) := by decide +kernel
theorem dX7_isLetter_13 : decode fX7_isLetter.2.1 13 = .ok (.iaload, 1) := by decide +kernel
theorem dX7_isLetter_14 : decode fX7_isLetter.2.1 14 = .ok (.bipush 97, 2) := by decide +kernel
theorem dX7_isLetter_16 : decode fX7_isLetter.2.1 16 = .ok (.if_icmp .lt 18, 3) := by decide +kernel
theorem dX7_isLetter_19 : decode fX7_isLetter.2.1 19 = .ok (.aload_n 0, 1) := by decide +kernel
theorem dX7_isLetter_20 : decode fX7_isLetter.2.1 20 = .ok (.getfield 25, 3) := by decide +kernel
theorem dX7_isLetter_23 : decode fX7_isLetter.2.1 23 = .ok (.iload_n 1, 1) := by decide +kernel
theorem dX7_isLetter_24 : decode fX7_isLetter.2.1 24 = .ok (.iaload, 1) := by decide +kernel
theorem dX7_isLetter_25 : decode fX7_isLetter.2.1 25 = .ok (.bipush 122, 2) := by decide +kernel
theorem dX7_isLetter_27 : decode fX7_isLetter.2.1 27 = .ok (.if_icmp .gt 7, 3) := by decide +kernel
theorem dX7_isLetter_30 : decode fX7_isLetter.2.1 30 = .ok (.iconst 1, 1) := by decide +kernel
theorem dX7_isLetter_31 : decode fX7_isLetter.2.1 31 = .ok (.goto 4, 3) := by decide +kernel
theorem dX7_isLetter_34 : decode fX7_isLetter.2.1 34 = .ok (.iconst 0, 1) := by decide +kernel
theorem dX7_isLetter_35 : decode fX7_isLetter.2.1 35 = .ok (.ireturn, 1) := by decide +kernel
set_option maxRecDepth 100000 in
set_option maxHeartbeats 4000000 in
theorem ok_X7_isLetter {X : Xb} {S : Sg} {mi : Mem} {o len p : Nat} {b : Nat → Int32} (hM : MdA S o) (hB : TpM mi o b len) (hl : len ≤ 96) (hp : p < 2 ^ 31) : OkI 0 fX7_isLetter X [rf X o, .int (nI p)] S mi (b2i (srtN b len p = 1)) mi := by
  refine Ok.go [some (rf X o), some (.int (nI p))] (by decide) (by simp [Value.category]) (Nat.le_of_ble_eq_true rfl) rfl ?_
  obtain ⟨k_o, ⟨r_o_now, k_o_now⟩, ⟨r_o_image, k_o_image⟩, ⟨r_o_aside, k_o_aside⟩, ⟨r_o_seen, k_o_seen⟩, ⟨r_o_unlike, k_o_unlike⟩, ⟨r_o_tape, k_o_tape⟩, ⟨r_o_keys, k_o_keys⟩, ⟨r_o_keyAt, k_o_keyAt⟩, ⟨r_o_code, k_o_code⟩, ⟨r_o_waits, k_o_waits⟩, ⟨r_o_tested, k_o_tested⟩, ⟨r_o_stack, k_o_stack⟩, ⟨r_o_facts, k_o_facts⟩, ⟨r_o_sorts, k_o_sorts⟩, ⟨r_o_sizes, k_o_sizes⟩, ⟨r_o_cells, k_o_cells⟩, ⟨r_o_holds, k_o_holds⟩, ⟨r_o_holdsA, k_o_holdsA⟩, ⟨r_o_holdsB, k_o_holdsB⟩, ⟨r_o_heldCells, k_o_heldCells⟩, ⟨r_o_moved, k_o_moved⟩, ⟨r_o_tells, k_o_tells⟩⟩ := id hM
  obtain ⟨hb, hln⟩ := hB
  have eb : mi (o + 6) p = b p := by rw [hb]
  refine mw_iload_n dX7_isLetter_0 rfl ?_
  refine mw_aload_n dX7_isLetter_1 rfl ?_
  refine mw_geti dX7_isLetter_2 fl_X7_194 rfl (by assumption) ?_
  rw [hln]
  refine mw_icmp_ge (tgt := 34) dX7_isLetter_5 (by decide) (fun h5 => ?_) (fun h5 => ?_)
  · skip
    refine mw_iconst (v := 0) dX7_isLetter_34 (by decide) ?_
    exact mw_bret dX7_isLetter_35 rfl (by first | exact Or.inl rfl | exact Or.inr rfl | exact b2i_01) (by decide) (by decide) (⟨by first | (have g := h27; have g2 : b p ≤ 122 := Int32.not_lt.mp g; rw [b2i_t (srt_1.mpr ⟨hlt, Int32.not_lt.mp h16, g2⟩)]; done) | (have g := h27; rw [b2i_f (fun q => absurd (srt_1.mp q).2.2 (Int32.not_le.mpr g))]; done) | (have g := h16; rw [b2i_f (fun q => absurd (srt_1.mp q).2.1 (Int32.not_le.mpr g))]; done) | (rw [b2i_f (fun q => absurd h5 (nI_ge (srt_1.mp q).1 (by omega)))]; done), rfl, rfl⟩)
  · skip
    have hlt : p < len := (nI_ltI hp (by omega)).mp (Int32.not_le.mp h5)
    refine mw_aload_n dX7_isLetter_8 rfl ?_
    refine mw_getr dX7_isLetter_9 fl_X7_25 rfl (by assumption) (by assumption) ?_
    refine mw_iload_n dX7_isLetter_12 rfl ?_
    refine mw_ialdK (k := p) dX7_isLetter_13 (by assumption) (rfl) (by omega) (by decide) ?_
    rw [eb]
    refine mw_bipush (v := 97) dX7_isLetter_14 (by decide) ?_
    refine mw_icmp_lt (tgt := 34) dX7_isLetter_16 (by decide) (fun h16 => ?_) (fun h16 => ?_)
    · skip
      refine mw_iconst (v := 0) dX7_isLetter_34 (by decide) ?_
      exact mw_bret dX7_isLetter_35 rfl (by first | exact Or.inl rfl | exact Or.inr rfl | exact b2i_01) (by decide) (by decide) (⟨by first | (have g := h27; have g2 : b p ≤ 122 := Int32.not_lt.mp g; rw [b2i_t (srt_1.mpr ⟨hlt, Int32.not_lt.mp h16, g2⟩)]; done) | (have g := h27; rw [b2i_f (fun q => absurd (srt_1.mp q).2.2 (Int32.not_le.mpr g))]; done) | (have g := h16; rw [b2i_f (fun q => absurd (srt_1.mp q).2.1 (Int32.not_le.mpr g))]; done) | (rw [b2i_f (fun q => absurd h5 (nI_ge (srt_1.mp q).1 (by omega)))]; done), rfl, rfl⟩)
    · skip
      refine mw_aload_n dX7_isLetter_19 rfl ?_
      refine mw_getr dX7_isLetter_20 fl_X7_25 rfl (by assumption) (by assumption) ?_
      refine mw_iload_n dX7_isLetter_23 rfl ?_
      refine mw_ialdK (k := p) dX7_isLetter_24 (by assumption) (rfl) (by omega) (by decide) ?_
      rw [eb]
      refine mw_bipush (v := 122) dX7_isLetter_25 (by decide) ?_
      refine mw_icmp_gt (tgt := 34) dX7_isLetter_27 (by decide) (fun h27 => ?_) (fun h27 => ?_)
      · skip
        refine mw_iconst (v := 0) dX7_isLetter_34 (by decide) ?_
        exact mw_bret dX7_isLetter_35 rfl (by first | exact Or.inl rfl | exact Or.inr rfl | exact b2i_01) (by decide) (by decide) (⟨by first | (have g := h27; have g2 : b p ≤ 122 := Int32.not_lt.mp g; rw [b2i_t (srt_1.mpr ⟨hlt, Int32.not_lt.mp h16, g2⟩)]; done) | (have g := h27; rw [b2i_f (fun q => absurd (srt_1.mp q).2.2 (Int32.not_le.mpr g))]; done) | (have g := h16; rw [b2i_f (fun q => absurd (srt_1.mp q).2.1 (Int32.not_le.mpr g))]; done) | (rw [b2i_f (fun q => absurd h5 (nI_ge (srt_1.mp q).1 (by omega)))]; done), rfl, rfl⟩)
      · skip
        refine mw_iconst (v := 1) dX7_isLetter_30 (by decide) ?_
        refine mw_goto (tgt := 35) dX7_isLetter_31 (by decide) ?_
        exact mw_bret dX7_isLetter_35 rfl (by first | exact Or.inl rfl | exact Or.inr rfl | exact b2i_01) (by decide) (by decide) (⟨by first | (have g := h27; have g2 : b p ≤ 122 := Int32.not_lt.mp g; rw [b2i_t (srt_1.mpr ⟨hlt, Int32.not_lt.mp h16, g2⟩)]; done) | (have g := h27; rw [b2i_f (fun q => absurd (srt_1.mp q).2.2 (Int32.not_le.mpr g))]; done) | (have g := h16; rw [b2i_f (fun q => absurd (srt_1.mp q).2.1 (Int32.not_le.mpr g))]; done) | (rw [b2i_f (fun q => absurd h5 (nI_ge (srt_1.mp q).1 (by omega)))]; done), rfl, rfl⟩)
theorem dX7_isFigure_0 : decode fX7_isFigure.2.1 0 = .ok (.iload_n 1, 1) := by decide +kernel
theorem dX7_isFigure_1 : decode fX7_isFigure.2.1 1 = .ok (.aload_n 0, 1) := by decide +kernel
theorem dX7_isFigure_2 : decode fX7_isFigure.2.1 2 = .ok (.getfield 194, 3) := by decide +kernel
theorem dX7_isFigure_5 : decode fX7_isFigure.2.1 5 = .ok (.if_icmp .ge 29, 3) := by decide +kernel
theorem dX7_isFigure_8 : decode fX7_isFigure.2.1 8 = .ok (.aload_n 0, 1) := by decide +kernel
theorem dX7_isFigure_9 : decode fX7_isFigure.2.1 9 = .ok (.getfield 25, 3) := by decide +kernel
theorem dX7_isFigure_12 : decode fX7_isFigure.2.1 12 = .ok (.iload_n 1, 1) := by decide +kernel
theorem dX7_isFigure_13 : decode fX7_isFigure.2.1 13 = .ok (.iaload, 1) := by decide +kernel
theorem dX7_isFigure_14 : decode fX7_isFigure.2.1 14 = .ok (.bipush 48, 2) := by decide +kernel
theorem dX7_isFigure_16 : decode fX7_isFigure.2.1 16 = .ok (.if_icmp .lt 18, 3) := by decide +kernel
theorem dX7_isFigure_19 : decode fX7_isFigure.2.1 19 = .ok (.aload_n 0, 1) := by decide +kernel
theorem dX7_isFigure_20 : decode fX7_isFigure.2.1 20 = .ok (.getfield 25, 3) := by decide +kernel
theorem dX7_isFigure_23 : decode fX7_isFigure.2.1 23 = .ok (.iload_n 1, 1) := by decide +kernel
theorem dX7_isFigure_24 : decode fX7_isFigure.2.1 24 = .ok (.iaload, 1) := by decide +kernel
theorem dX7_isFigure_25 : decode fX7_isFigure.2.1 25 = .ok (.bipush 57, 2) := by decide +kernel
theorem dX7_isFigure_27 : decode fX7_isFigure.2.1 27 = .ok (.if_icmp .gt 7, 3) := by decide +kernel
theorem dX7_isFigure_30 : decode fX7_isFigure.2.1 30 = .ok (.iconst 1, 1) := by decide +kernel
theorem dX7_isFigure_31 : decode fX7_isFigure.2.1 31 = .ok (.goto 4, 3) := by decide +kernel
theorem dX7_isFigure_34 : decode fX7_isFigure.2.1 34 = .ok (.iconst 0, 1) := by decide +kernel
theorem dX7_isFigure_35 : decode fX7_isFigure.2.1 35 = .ok (.ireturn, 1) := by decide +kernel
set_option maxRecDepth 100000 in
set_option maxHeartbeats 4000000 in
theorem ok_X7_isFigure {X : Xb} {S : Sg} {mi : Mem} {o len p : Nat} {b : Nat → Int32} (hM : MdA S o) (hB : TpM mi o b len) (hl : len ≤ 96) (hp : p < 2 ^ 31) : OkI 0 fX7_isFigure X [rf X o, .int (nI p)] S mi (b2i (srtN b len p = 2)) mi := by
  refine Ok.go [some (rf X o), some (.int (nI p))] (by decide) (by simp [Value.category]) (Nat.le_of_ble_eq_true rfl) rfl ?_
  obtain ⟨k_o, ⟨r_o_now, k_o_now⟩, ⟨r_o_image, k_o_image⟩, ⟨r_o_aside, k_o_aside⟩, ⟨r_o_seen, k_o_seen⟩, ⟨r_o_unlike, k_o_unlike⟩, ⟨r_o_tape, k_o_tape⟩, ⟨r_o_keys, k_o_keys⟩, ⟨r_o_keyAt, k_o_keyAt⟩, ⟨r_o_code, k_o_code⟩, ⟨r_o_waits, k_o_waits⟩, ⟨r_o_tested, k_o_tested⟩, ⟨r_o_stack, k_o_stack⟩, ⟨r_o_facts, k_o_facts⟩, ⟨r_o_sorts, k_o_sorts⟩, ⟨r_o_sizes, k_o_sizes⟩, ⟨r_o_cells, k_o_cells⟩, ⟨r_o_holds, k_o_holds⟩, ⟨r_o_holdsA, k_o_holdsA⟩, ⟨r_o_holdsB, k_o_holdsB⟩, ⟨r_o_heldCells, k_o_heldCells⟩, ⟨r_o_moved, k_o_moved⟩, ⟨r_o_tells, k_o_tells⟩⟩ := id hM
  obtain ⟨hb, hln⟩ := hB
  have eb : mi (o + 6) p = b p := by rw [hb]
  refine mw_iload_n dX7_isFigure_0 rfl ?_
  refine mw_aload_n dX7_isFigure_1 rfl ?_
  refine mw_geti dX7_isFigure_2 fl_X7_194 rfl (by assumption) ?_
  rw [hln]
  refine mw_icmp_ge (tgt := 34) dX7_isFigure_5 (by decide) (fun h5 => ?_) (fun h5 => ?_)
  · skip
    refine mw_iconst (v := 0) dX7_isFigure_34 (by decide) ?_
    exact mw_bret dX7_isFigure_35 rfl (by first | exact Or.inl rfl | exact Or.inr rfl | exact b2i_01) (by decide) (by decide) (⟨by first | (have g := h27; have g2 : b p ≤ 57 := Int32.not_lt.mp g; rw [b2i_t (srt_2.mpr ⟨hlt, Int32.not_lt.mp h16, g2⟩)]; done) | (have g := h27; rw [b2i_f (fun q => absurd (srt_2.mp q).2.2 (Int32.not_le.mpr g))]; done) | (have g := h16; rw [b2i_f (fun q => absurd (srt_2.mp q).2.1 (Int32.not_le.mpr g))]; done) | (rw [b2i_f (fun q => absurd h5 (nI_ge (srt_2.mp q).1 (by omega)))]; done), rfl, rfl⟩)
  · skip
    have hlt : p < len := (nI_ltI hp (by omega)).mp (Int32.not_le.mp h5)
    refine mw_aload_n dX7_isFigure_8 rfl ?_
    refine mw_getr dX7_isFigure_9 fl_X7_25 rfl (by assumption) (by assumption) ?_
    refine mw_iload_n dX7_isFigure_12 rfl ?_
    refine mw_ialdK (k := p) dX7_isFigure_13 (by assumption) (rfl) (by omega) (by decide) ?_
    rw [eb]
    refine mw_bipush (v := 48) dX7_isFigure_14 (by decide) ?_
    refine mw_icmp_lt (tgt := 34) dX7_isFigure_16 (by decide) (fun h16 => ?_) (fun h16 => ?_)
    · skip
      refine mw_iconst (v := 0) dX7_isFigure_34 (by decide) ?_
      exact mw_bret dX7_isFigure_35 rfl (by first | exact Or.inl rfl | exact Or.inr rfl | exact b2i_01) (by decide) (by decide) (⟨by first | (have g := h27; have g2 : b p ≤ 57 := Int32.not_lt.mp g; rw [b2i_t (srt_2.mpr ⟨hlt, Int32.not_lt.mp h16, g2⟩)]; done) | (have g := h27; rw [b2i_f (fun q => absurd (srt_2.mp q).2.2 (Int32.not_le.mpr g))]; done) | (have g := h16; rw [b2i_f (fun q => absurd (srt_2.mp q).2.1 (Int32.not_le.mpr g))]; done) | (rw [b2i_f (fun q => absurd h5 (nI_ge (srt_2.mp q).1 (by omega)))]; done), rfl, rfl⟩)
    · skip
      refine mw_aload_n dX7_isFigure_19 rfl ?_
      refine mw_getr dX7_isFigure_20 fl_X7_25 rfl (by assumption) (by assumption) ?_
      refine mw_iload_n dX7_isFigure_23 rfl ?_
      refine mw_ialdK (k := p) dX7_isFigure_24 (by assumption) (rfl) (by omega) (by decide) ?_
      rw [eb]
      refine mw_bipush (v := 57) dX7_isFigure_25 (by decide) ?_
      refine mw_icmp_gt (tgt := 34) dX7_isFigure_27 (by decide) (fun h27 => ?_) (fun h27 => ?_)
      · skip
        refine mw_iconst (v := 0) dX7_isFigure_34 (by decide) ?_
        exact mw_bret dX7_isFigure_35 rfl (by first | exact Or.inl rfl | exact Or.inr rfl | exact b2i_01) (by decide) (by decide) (⟨by first | (have g := h27; have g2 : b p ≤ 57 := Int32.not_lt.mp g; rw [b2i_t (srt_2.mpr ⟨hlt, Int32.not_lt.mp h16, g2⟩)]; done) | (have g := h27; rw [b2i_f (fun q => absurd (srt_2.mp q).2.2 (Int32.not_le.mpr g))]; done) | (have g := h16; rw [b2i_f (fun q => absurd (srt_2.mp q).2.1 (Int32.not_le.mpr g))]; done) | (rw [b2i_f (fun q => absurd h5 (nI_ge (srt_2.mp q).1 (by omega)))]; done), rfl, rfl⟩)
      · skip
        refine mw_iconst (v := 1) dX7_isFigure_30 (by decide) ?_
        refine mw_goto (tgt := 35) dX7_isFigure_31 (by decide) ?_
        exact mw_bret dX7_isFigure_35 rfl (by first | exact Or.inl rfl | exact Or.inr rfl | exact b2i_01) (by decide) (by decide) (⟨by first | (have g := h27; have g2 : b p ≤ 57 := Int32.not_lt.mp g; rw [b2i_t (srt_2.mpr ⟨hlt, Int32.not_lt.mp h16, g2⟩)]; done) | (have g := h27; rw [b2i_f (fun q => absurd (srt_2.mp q).2.2 (Int32.not_le.mpr g))]; done) | (have g := h16; rw [b2i_f (fun q => absurd (srt_2.mp q).2.1 (Int32.not_le.mpr g))]; done) | (rw [b2i_f (fun q => absurd h5 (nI_ge (srt_2.mp q).1 (by omega)))]; done), rfl, rfl⟩)
def mnF (b : Nat → Int32) (fm : Nat) : Nat → Int32
  | 0 => 0
  | k + 1 => if k < 4 then 10 * mnF b fm k + b (fm + k) - 48 else mnF b fm k
abbrev Gt : Type := Nat × Nat × Nat × Int32 × Int32
def gosF (b : Nat → Int32) (len fm : Nat) (vl ed : Int32) : Gt := if fm = len then (fm, fm, 0, vl, ed) else if srtN b len fm = 1 then (skW b len 1 (len - fm) fm, fm, (if nI fm = ed then 4 else 1), b fm, nI (skW b len 1 (len - fm) fm)) else if srtN b len fm = 2 then (skW b len 2 (len - fm) fm, fm, (if nI fm = ed ∨ 4 < skW b len 2 (len - fm) fm - fm then 4 else 2), mnF b fm (skW b len 2 (len - fm) fm - fm), nI (skW b len 2 (len - fm) fm)) else (fm + 1, fm, 3, b fm, ed)
def goS (b : Nat → Int32) (len : Nat) (G : Gt) : Gt := gosF b len (skB b len (len - G.1) G.1) G.2.2.2.1 G.2.2.2.2
def TkG (m : Mem) (o : Nat) (G : Gt) : Prop := m o 8 = nI G.1 ∧ m o 9 = nI G.2.1 ∧ m o 10 = nI G.2.2.1 ∧ m o 11 = G.2.2.2.1 ∧ m o 12 = G.2.2.2.2
def FrG (o : Nat) (mi m : Mem) : Prop := (∀ a, a ≠ o → m a = mi a) ∧ ∀ j, (j < 8 ∨ 12 < j) → m o j = mi o j
theorem FrG.rf (o : Nat) (mi : Mem) : FrG o mi mi := ⟨fun _ _ => rfl, fun _ _ => rfl⟩
theorem FrG.tr {o : Nat} {a b c : Mem} (h : FrG o a b) (k : FrG o b c) : FrG o a c := ⟨fun i h1 => (k.1 i h1).trans (h.1 i h1), fun j h1 => (k.2 j h1).trans (h.2 j h1)⟩
theorem FrG.up {o k : Nat} {a b : Mem} {v : Int32} (h : FrG o a b) (hk : 8 ≤ k ∧ k ≤ 12) : FrG o a (m_up b o k v) := ⟨fun i g => by rw [m_up_ne g]; exact h.1 i g, fun j g => by rw [m_up_of (by omega)]; exact h.2 j g⟩
theorem TpM.fr {mi m : Mem} {o len : Nat} {b : Nat → Int32} (h : TpM mi o b len) (k : FrG o mi m) : TpM m o b len := ⟨by rw [k.1 (o + 6) (by omega)]; exact h.1, by rw [k.2 7 (by omega)]; exact h.2⟩
theorem TkG.u8 {m : Mem} {o n f t v : Nat} {vl ed : Int32} (h : TkG m o (n, f, t, vl, ed)) : TkG (m_up m o 8 (nI v)) o (v, f, t, vl, ed) := ⟨m_up_at _ _ _ _, by rw [m_up_of (by decide)]; exact h.2.1, by rw [m_up_of (by decide)]; exact h.2.2.1, by rw [m_up_of (by decide)]; exact h.2.2.2.1, by rw [m_up_of (by decide)]; exact h.2.2.2.2⟩
theorem TkG.u9 {m : Mem} {o n f t v : Nat} {vl ed : Int32} (h : TkG m o (n, f, t, vl, ed)) : TkG (m_up m o 9 (nI v)) o (n, v, t, vl, ed) := ⟨by rw [m_up_of (by decide)]; exact h.1, m_up_at _ _ _ _, by rw [m_up_of (by decide)]; exact h.2.2.1, by rw [m_up_of (by decide)]; exact h.2.2.2.1, by rw [m_up_of (by decide)]; exact h.2.2.2.2⟩
theorem TkG.u10 {m : Mem} {o n f t v : Nat} {vl ed : Int32} (h : TkG m o (n, f, t, vl, ed)) : TkG (m_up m o 10 (nI v)) o (n, f, v, vl, ed) := ⟨by rw [m_up_of (by decide)]; exact h.1, by rw [m_up_of (by decide)]; exact h.2.1, m_up_at _ _ _ _, by rw [m_up_of (by decide)]; exact h.2.2.2.1, by rw [m_up_of (by decide)]; exact h.2.2.2.2⟩
theorem TkG.u11 {m : Mem} {o n f t : Nat} {vl ed v : Int32} (h : TkG m o (n, f, t, vl, ed)) : TkG (m_up m o 11 v) o (n, f, t, v, ed) := ⟨by rw [m_up_of (by decide)]; exact h.1, by rw [m_up_of (by decide)]; exact h.2.1, by rw [m_up_of (by decide)]; exact h.2.2.1, m_up_at _ _ _ _, by rw [m_up_of (by decide)]; exact h.2.2.2.2⟩
theorem TkG.u12 {m : Mem} {o n f t : Nat} {vl ed v : Int32} (h : TkG m o (n, f, t, vl, ed)) : TkG (m_up m o 12 v) o (n, f, t, vl, v) := ⟨by rw [m_up_of (by decide)]; exact h.1, by rw [m_up_of (by decide)]; exact h.2.1, by rw [m_up_of (by decide)]; exact h.2.2.1, by rw [m_up_of (by decide)]; exact h.2.2.2.1, m_up_at _ _ _ _⟩
theorem dX7_go_0 : decode fX7_go.2.1 0 = .ok (.aload_n 0, 1) := by decide +kernel
theorem dX7_go_1 : decode fX7_go.2.1 1 = .ok (.getfield 198, 3) := by decide +kernel
theorem dX7_go_4 : decode fX7_go.2.1 4 = .ok (.aload_n 0, 1) := by decide +kernel
theorem dX7_go_5 : decode fX7_go.2.1 5 = .ok (.getfield 194, 3) := by decide +kernel
theorem dX7_go_8 : decode fX7_go.2.1 8 = .ok (.if_icmp .ge 30, 3) := by decide +kernel
theorem dX7_go_11 : decode fX7_go.2.1 11 = .ok (.aload_n 0, 1) := by decide +kernel
theorem dX7_go_12 : decode fX7_go.2.1 12 = .ok (.getfield 25, 3) := by decide +kernel
theorem dX7_go_15 : decode fX7_go.2.1 15 = .ok (.aload_n 0, 1) := by decide +kernel
theorem dX7_go_16 : decode fX7_go.2.1 16 = .ok (.getfield 198, 3) := by decide +kernel
theorem dX7_go_19 : decode fX7_go.2.1 19 = .ok (.iaload, 1) := by decide +kernel
theorem dX7_go_20 : decode fX7_go.2.1 20 = .ok (.bipush 32, 2) := by decide +kernel
theorem dX7_go_22 : decode fX7_go.2.1 22 = .ok (.if_icmp .ne 16, 3) := by decide +kernel
theorem dX7_go_25 : decode fX7_go.2.1 25 = .ok (.aload_n 0, 1) := by decide +kernel
theorem dX7_go_26 : decode fX7_go.2.1 26 = .ok (.dup, 1) := by decide +kernel
theorem dX7_go_27 : decode fX7_go.2.1 27 = .ok (.getfield 198, 3) := by decide +kernel
theorem dX7_go_30 : decode fX7_go.2.1 30 = .ok (.iconst 1, 1) := by decide +kernel
theorem dX7_go_31 : decode fX7_go.2.1 31 = .ok (.iadd, 1) := by decide +kernel
theorem dX7_go_32 : decode fX7_go.2.1 32 = .ok (.putfield 198, 3) := by decide +kernel
theorem dX7_go_35 : decode fX7_go.2.1 35 = .ok (.goto (-35), 3) := by decide +kernel
theorem dX7_go_38 : decode fX7_go.2.1 38 = .ok (.aload_n 0, 1) := by decide +kernel
theorem dX7_go_39 : decode fX7_go.2.1 39 = .ok (.aload_n 0, 1) := by decide +kernel
theorem dX7_go_40 : decode fX7_go.2.1 40 = .ok (.getfield 198, 3) := by decide +kernel
theorem dX7_go_43 : decode fX7_go.2.1 43 = .ok (.putfield 201, 3) := by decide +kernel
theorem dX7_go_46 : decode fX7_go.2.1 46 = .ok (.aload_n 0, 1) := by decide +kernel
theorem dX7_go_47 : decode fX7_go.2.1 47 = .ok (.getfield 201, 3) := by decide +kernel
theorem dX7_go_50 : decode fX7_go.2.1 50 = .ok (.aload_n 0, 1) := by decide +kernel
theorem dX7_go_51 : decode fX7_go.2.1 51 = .ok (.getfield 204, 3) := by decide +kernel
theorem dX7_go_54 : decode fX7_go.2.1 54 = .ok (.if_icmp .ne 7, 3) := by decide +kernel
theorem dX7_go_57 : decode fX7_go.2.1 57 = .ok (.iconst 1, 1) := by decide +kernel
theorem dX7_go_58 : decode fX7_go.2.1 58 = .ok (.goto 4, 3) := by decide +kernel
theorem dX7_go_61 : decode fX7_go.2.1 61 = .ok (.iconst 0, 1) := by decide +kernel
theorem dX7_go_62 : decode fX7_go.2.1 62 = .ok (.istore_n 1, 1) := by decide +kernel
theorem dX7_go_63 : decode fX7_go.2.1 63 = .ok (.aload_n 0, 1) := by decide +kernel
theorem dX7_go_64 : decode fX7_go.2.1 64 = .ok (.getfield 201, 3) := by decide +kernel
theorem dX7_go_67 : decode fX7_go.2.1 67 = .ok (.aload_n 0, 1) := by decide +kernel
theorem dX7_go_68 : decode fX7_go.2.1 68 = .ok (.getfield 194, 3) := by decide +kernel
theorem dX7_go_71 : decode fX7_go.2.1 71 = .ok (.if_icmp .ne 11, 3) := by decide +kernel
theorem dX7_go_74 : decode fX7_go.2.1 74 = .ok (.aload_n 0, 1) := by decide +kernel
theorem dX7_go_75 : decode fX7_go.2.1 75 = .ok (.iconst 0, 1) := by decide +kernel
theorem dX7_go_76 : decode fX7_go.2.1 76 = .ok (.putfield 207, 3) := by decide +kernel
theorem dX7_go_79 : decode fX7_go.2.1 79 = .ok (.goto 224, 3) := by decide +kernel
theorem dX7_go_82 : decode fX7_go.2.1 82 = .ok (.aload_n 0, 1) := by decide +kernel
theorem dX7_go_83 : decode fX7_go.2.1 83 = .ok (.aload_n 0, 1) := by decide +kernel
theorem dX7_go_84 : decode fX7_go.2.1 84 = .ok (.getfield 201, 3) := by decide +kernel
theorem dX7_go_87 : decode fX7_go.2.1 87 = .ok (.invokevirtual 210, 3) := by decide +kernel
theorem dX7_go_90 : decode fX7_go.2.1 90 = .ok (.ifCond .eq 64, 3) := by decide +kernel
theorem dX7_go_93 : decode fX7_go.2.1 93 = .ok (.aload_n 0, 1) := by decide +kernel
theorem dX7_go_94 : decode fX7_go.2.1 94 = .ok (.aload_n 0, 1) := by decide +kernel
theorem dX7_go_95 : decode fX7_go.2.1 95 = .ok (.getfield 198, 3) := by decide +kernel
theorem dX7_go_98 : decode fX7_go.2.1 98 = .ok (.invokevirtual 210, 3) := by decide +kernel
theorem dX7_go_101 : decode fX7_go.2.1 101 = .ok (.ifCond .eq 16, 3) := by decide +kernel
theorem dX7_go_104 : decode fX7_go.2.1 104 = .ok (.aload_n 0, 1) := by decide +kernel
theorem dX7_go_105 : decode fX7_go.2.1 105 = .ok (.dup, 1) := by decide +kernel
theorem dX7_go_106 : decode fX7_go.2.1 106 = .ok (.getfield 198, 3) := by decide +kernel
theorem dX7_go_109 : decode fX7_go.2.1 109 = .ok (.iconst 1, 1) := by decide +kernel
theorem dX7_go_110 : decode fX7_go.2.1 110 = .ok (.iadd, 1) := by decide +kernel
theorem dX7_go_111 : decode fX7_go.2.1 111 = .ok (.putfield 198, 3) := by decide +kernel
theorem dX7_go_114 : decode fX7_go.2.1 114 = .ok (.goto (-21), 3) := by decide +kernel
theorem dX7_go_117 : decode fX7_go.2.1 117 = .ok (.aload_n 0, 1) := by decide +kernel
theorem dX7_go_118 : decode fX7_go.2.1 118 = .ok (.iload_n 1, 1) := by decide +kernel
theorem dX7_go_119 : decode fX7_go.2.1 119 = .ok (.ifCond .eq 7, 3) := by decide +kernel
theorem dX7_go_122 : decode fX7_go.2.1 122 = .ok (.iconst 4, 1) := by decide +kernel
theorem dX7_go_123 : decode fX7_go.2.1 123 = .ok (.goto 4, 3) := by decide +kernel
theorem dX7_go_126 : decode fX7_go.2.1 126 = .ok (.iconst 1, 1) := by decide +kernel
theorem dX7_go_127 : decode fX7_go.2.1 127 = .ok (.putfield 207, 3) := by decide +kernel
theorem dX7_go_130 : decode fX7_go.2.1 130 = .ok (.aload_n 0, 1) := by decide +kernel
theorem dX7_go_131 : decode fX7_go.2.1 131 = .ok (.aload_n 0, 1) := by decide +kernel
theorem dX7_go_132 : decode fX7_go.2.1 132 = .ok (.getfield 25, 3) := by decide +kernel
theorem dX7_go_135 : decode fX7_go.2.1 135 = .ok (.aload_n 0, 1) := by decide +kernel
theorem dX7_go_136 : decode fX7_go.2.1 136 = .ok (.getfield 201, 3) := by decide +kernel
theorem dX7_go_139 : decode fX7_go.2.1 139 = .ok (.iaload, 1) := by decide +kernel
theorem dX7_go_140 : decode fX7_go.2.1 140 = .ok (.putfield 213, 3) := by decide +kernel
theorem dX7_go_143 : decode fX7_go.2.1 143 = .ok (.aload_n 0, 1) := by decide +kernel
theorem dX7_go_144 : decode fX7_go.2.1 144 = .ok (.aload_n 0, 1) := by decide +kernel
theorem dX7_go_145 : decode fX7_go.2.1 145 = .ok (.getfield 198, 3) := by decide +kernel
theorem dX7_go_148 : decode fX7_go.2.1 148 = .ok (.putfield 204, 3) := by decide +kernel
theorem dX7_go_151 : decode fX7_go.2.1 151 = .ok (.goto 152, 3) := by decide +kernel
theorem dX7_go_154 : decode fX7_go.2.1 154 = .ok (.aload_n 0, 1) := by decide +kernel
theorem dX7_go_155 : decode fX7_go.2.1 155 = .ok (.aload_n 0, 1) := by decide +kernel
theorem dX7_go_156 : decode fX7_go.2.1 156 = .ok (.getfield 201, 3) := by decide +kernel
theorem dX7_go_159 : decode fX7_go.2.1 159 = .ok (.invokevirtual 216, 3) := by decide +kernel
theorem dX7_go_162 : decode fX7_go.2.1 162 = .ok (.ifCond .eq 113, 3) := by decide +kernel
theorem dX7_go_165 : decode fX7_go.2.1 165 = .ok (.aload_n 0, 1) := by decide +kernel
theorem dX7_go_166 : decode fX7_go.2.1 166 = .ok (.iconst 0, 1) := by decide +kernel
theorem dX7_go_167 : decode fX7_go.2.1 167 = .ok (.putfield 213, 3) := by decide +kernel
theorem dX7_go_170 : decode fX7_go.2.1 170 = .ok (.aload_n 0, 1) := by decide +kernel
theorem dX7_go_171 : decode fX7_go.2.1 171 = .ok (.aload_n 0, 1) := by decide +kernel
theorem dX7_go_172 : decode fX7_go.2.1 172 = .ok (.getfield 198, 3) := by decide +kernel
theorem dX7_go_175 : decode fX7_go.2.1 175 = .ok (.invokevirtual 216, 3) := by decide +kernel
theorem dX7_go_178 : decode fX7_go.2.1 178 = .ok (.ifCond .eq 60, 3) := by decide +kernel
theorem dX7_go_181 : decode fX7_go.2.1 181 = .ok (.aload_n 0, 1) := by decide +kernel
theorem dX7_go_182 : decode fX7_go.2.1 182 = .ok (.aload_n 0, 1) := by decide +kernel
theorem dX7_go_183 : decode fX7_go.2.1 183 = .ok (.getfield 198, 3) := by decide +kernel
theorem dX7_go_186 : decode fX7_go.2.1 186 = .ok (.aload_n 0, 1) := by decide +kernel
theorem dX7_go_187 : decode fX7_go.2.1 187 = .ok (.getfield 201, 3) := by decide +kernel
theorem dX7_go_190 : decode fX7_go.2.1 190 = .ok (.isub, 1) := by decide +kernel
theorem dX7_go_191 : decode fX7_go.2.1 191 = .ok (.iconst 4, 1) := by decide +kernel
theorem dX7_go_192 : decode fX7_go.2.1 192 = .ok (.if_icmp .ge 26, 3) := by decide +kernel
theorem dX7_go_195 : decode fX7_go.2.1 195 = .ok (.bipush 10, 2) := by decide +kernel
theorem dX7_go_197 : decode fX7_go.2.1 197 = .ok (.aload_n 0, 1) := by decide +kernel
theorem dX7_go_198 : decode fX7_go.2.1 198 = .ok (.getfield 213, 3) := by decide +kernel
theorem dX7_go_201 : decode fX7_go.2.1 201 = .ok (.imul, 1) := by decide +kernel
theorem dX7_go_202 : decode fX7_go.2.1 202 = .ok (.aload_n 0, 1) := by decide +kernel
theorem dX7_go_203 : decode fX7_go.2.1 203 = .ok (.getfield 25, 3) := by decide +kernel
theorem dX7_go_206 : decode fX7_go.2.1 206 = .ok (.aload_n 0, 1) := by decide +kernel
theorem dX7_go_207 : decode fX7_go.2.1 207 = .ok (.getfield 198, 3) := by decide +kernel
theorem dX7_go_210 : decode fX7_go.2.1 210 = .ok (.iaload, 1) := by decide +kernel
theorem dX7_go_211 : decode fX7_go.2.1 211 = .ok (.iadd, 1) := by decide +kernel
theorem dX7_go_212 : decode fX7_go.2.1 212 = .ok (.bipush 48, 2) := by decide +kernel
theorem dX7_go_214 : decode fX7_go.2.1 214 = .ok (.isub, 1) := by decide +kernel
theorem dX7_go_215 : decode fX7_go.2.1 215 = .ok (.goto 7, 3) := by decide +kernel
theorem dX7_go_218 : decode fX7_go.2.1 218 = .ok (.aload_n 0, 1) := by decide +kernel
theorem dX7_go_219 : decode fX7_go.2.1 219 = .ok (.getfield 213, 3) := by decide +kernel
theorem dX7_go_222 : decode fX7_go.2.1 222 = .ok (.putfield 213, 3) := by decide +kernel
theorem dX7_go_225 : decode fX7_go.2.1 225 = .ok (.aload_n 0, 1) := by decide +kernel
theorem dX7_go_226 : decode fX7_go.2.1 226 = .ok (.dup, 1) := by decide +kernel
theorem dX7_go_227 : decode fX7_go.2.1 227 = .ok (.getfield 198, 3) := by decide +kernel
theorem dX7_go_230 : decode fX7_go.2.1 230 = .ok (.iconst 1, 1) := by decide +kernel
theorem dX7_go_231 : decode fX7_go.2.1 231 = .ok (.iadd, 1) := by decide +kernel
theorem dX7_go_232 : decode fX7_go.2.1 232 = .ok (.putfield 198, 3) := by decide +kernel
theorem dX7_go_235 : decode fX7_go.2.1 235 = .ok (.goto (-65), 3) := by decide +kernel
theorem dX7_go_238 : decode fX7_go.2.1 238 = .ok (.aload_n 0, 1) := by decide +kernel
theorem dX7_go_239 : decode fX7_go.2.1 239 = .ok (.iload_n 1, 1) := by decide +kernel
theorem dX7_go_240 : decode fX7_go.2.1 240 = .ok (.ifCond .ne 16, 3) := by decide +kernel
theorem dX7_go_243 : decode fX7_go.2.1 243 = .ok (.aload_n 0, 1) := by decide +kernel
theorem dX7_go_244 : decode fX7_go.2.1 244 = .ok (.getfield 198, 3) := by decide +kernel
theorem dX7_go_247 : decode fX7_go.2.1 247 = .ok (.aload_n 0, 1) := by decide +kernel
theorem dX7_go_248 : decode fX7_go.2.1 248 = .ok (.getfield 201, 3) := by decide +kernel
theorem dX7_go_251 : decode fX7_go.2.1 251 = .ok (.isub, 1) := by decide +kernel
theorem dX7_go_252 : decode fX7_go.2.1 252 = .ok (.iconst 4, 1) := by decide +kernel
theorem dX7_go_253 : decode fX7_go.2.1 253 = .ok (.if_icmp .le 7, 3) := by decide +kernel
theorem dX7_go_256 : decode fX7_go.2.1 256 = .ok (.iconst 4, 1) := by decide +kernel
theorem dX7_go_257 : decode fX7_go.2.1 257 = .ok (.goto 4, 3) := by decide +kernel
theorem dX7_go_260 : decode fX7_go.2.1 260 = .ok (.iconst 2, 1) := by decide +kernel
theorem dX7_go_261 : decode fX7_go.2.1 261 = .ok (.putfield 207, 3) := by decide +kernel
theorem dX7_go_264 : decode fX7_go.2.1 264 = .ok (.aload_n 0, 1) := by decide +kernel
theorem dX7_go_265 : decode fX7_go.2.1 265 = .ok (.aload_n 0, 1) := by decide +kernel
theorem dX7_go_266 : decode fX7_go.2.1 266 = .ok (.getfield 198, 3) := by decide +kernel
theorem dX7_go_269 : decode fX7_go.2.1 269 = .ok (.putfield 204, 3) := by decide +kernel
theorem dX7_go_272 : decode fX7_go.2.1 272 = .ok (.goto 31, 3) := by decide +kernel
theorem dX7_go_275 : decode fX7_go.2.1 275 = .ok (.aload_n 0, 1) := by decide +kernel
theorem dX7_go_276 : decode fX7_go.2.1 276 = .ok (.iconst 3, 1) := by decide +kernel
theorem dX7_go_277 : decode fX7_go.2.1 277 = .ok (.putfield 207, 3) := by decide +kernel
theorem dX7_go_280 : decode fX7_go.2.1 280 = .ok (.aload_n 0, 1) := by decide +kernel
theorem dX7_go_281 : decode fX7_go.2.1 281 = .ok (.aload_n 0, 1) := by decide +kernel
theorem dX7_go_282 : decode fX7_go.2.1 282 = .ok (.getfield 25, 3) := by decide +kernel
theorem dX7_go_285 : decode fX7_go.2.1 285 = .ok (.aload_n 0, 1) := by decide +kernel
theorem dX7_go_286 : decode fX7_go.2.1 286 = .ok (.getfield 201, 3) := by decide +kernel
theorem dX7_go_289 : decode fX7_go.2.1 289 = .ok (.iaload, 1) := by decide +kernel
theorem dX7_go_290 : decode fX7_go.2.1 290 = .ok (.putfield 213, 3) := by decide +kernel
theorem dX7_go_293 : decode fX7_go.2.1 293 = .ok (.aload_n 0, 1) := by decide +kernel
theorem dX7_go_294 : decode fX7_go.2.1 294 = .ok (.dup, 1) := by decide +kernel
theorem dX7_go_295 : decode fX7_go.2.1 295 = .ok (.getfield 198, 3) := by decide +kernel
theorem dX7_go_298 : decode fX7_go.2.1 298 = .ok (.iconst 1, 1) := by decide +kernel
theorem dX7_go_299 : decode fX7_go.2.1 299 = .ok (.iadd, 1) := by decide +kernel
theorem dX7_go_300 : decode fX7_go.2.1 300 = .ok (.putfield 198, 3) := by decide +kernel
theorem dX7_go_303 : decode fX7_go.2.1 303 = .ok (.return_, 1) := by decide +kernel
set_option maxRecDepth 100000 in
set_option maxHeartbeats 4000000 in
theorem ok_X7_goT {X : Xb} {S : Sg} {mi : Mem} {o len n0 f0 t0 : Nat} {b : Nat → Int32} {v0 ed : Int32} (hM : MdA S o) (hB : TpM mi o b len) (hl : len ≤ 96) (hG : TkG mi o (n0, f0, t0, v0, ed)) (hn : n0 ≤ len) : Ok 1 0 0 fX7_go X [rf X o] S mi (fun r S' m => r = none ∧ S' = S ∧ TkG m o (goS b len (n0, f0, t0, v0, ed)) ∧ FrG o mi m) := by
  refine Ok.go [some (rf X o), none] (by decide) (by simp [Value.category]) (Nat.le_of_ble_eq_true rfl) rfl ?_
  obtain ⟨k_o, ⟨r_o_now, k_o_now⟩, ⟨r_o_image, k_o_image⟩, ⟨r_o_aside, k_o_aside⟩, ⟨r_o_seen, k_o_seen⟩, ⟨r_o_unlike, k_o_unlike⟩, ⟨r_o_tape, k_o_tape⟩, ⟨r_o_keys, k_o_keys⟩, ⟨r_o_keyAt, k_o_keyAt⟩, ⟨r_o_code, k_o_code⟩, ⟨r_o_waits, k_o_waits⟩, ⟨r_o_tested, k_o_tested⟩, ⟨r_o_stack, k_o_stack⟩, ⟨r_o_facts, k_o_facts⟩, ⟨r_o_sorts, k_o_sorts⟩, ⟨r_o_sizes, k_o_sizes⟩, ⟨r_o_cells, k_o_cells⟩, ⟨r_o_holds, k_o_holds⟩, ⟨r_o_holdsA, k_o_holdsA⟩, ⟨r_o_holdsB, k_o_holdsB⟩, ⟨r_o_heldCells, k_o_heldCells⟩, ⟨r_o_moved, k_o_moved⟩, ⟨r_o_tells, k_o_tells⟩⟩ := id hM
  generalize hfm : skB b len (len - n0) n0 = fm
  have gb := skB_le (b := b) (len := len) (len - n0) n0 hn
  rw [hfm] at gb
  have hgo : goS b len (n0, f0, t0, v0, ed) = gosF b len fm v0 ed := by rw [goS, hfm]
  have s238 : ∀ (ci : Int32) nx m, ((ci = 1 ∧ nI fm = ed) ∨ (ci = 0 ∧ ¬ nI fm = ed)) → fm ≠ len → srtN b len fm = 2 → skW b len 2 (len - fm) fm = nx → fm ≤ nx → nx ≤ len → TkG m o (nx, fm, t0, mnF b fm (nx - fm), ed) → FrG o mi m → MW X fX7_go (rmOf 1 0 0) 0 0 238 [some (rf X o), some (.int ci)] [] S m (mQ X 0 0 (fun r S' m => r = none ∧ S' = S ∧ TkG m o (goS b len (n0, f0, t0, v0, ed)) ∧ FrG o mi m)) := by
    intro ci nx m hc h1 h2 h3 h4 h5 hm hF
    have e8 : m o 8 = nI nx := hm.1
    have e9 : m o 9 = nI fm := hm.2.1
    have ee : nI nx - nI fm = nI (nx - fm) := pk_sub h4
    have hg : gosF b len fm v0 ed = (nx, fm, (if nI fm = ed ∨ 4 < nx - fm then 4 else 2), mnF b fm (nx - fm), nI nx) := by rw [gosF, if_neg h1, if_neg (by rw [h2]; decide), if_pos h2, h3]
    have s261 : ∀ tk, (if nI fm = ed ∨ 4 < nx - fm then 4 else 2) = tk → MW X fX7_go (rmOf 1 0 0) 0 0 261 [some (rf X o), some (.int ci)] [.int (nI tk), rf X o] S m (mQ X 0 0 (fun r S' m => r = none ∧ S' = S ∧ TkG m o (goS b len (n0, f0, t0, v0, ed)) ∧ FrG o mi m)) := by
      intro tk htk
      have k1 : TkG (m_up m o 10 (nI tk)) o (nx, fm, tk, mnF b fm (nx - fm), ed) := hm.u10
      have e8' : m_up m o 10 (nI tk) o 8 = nI nx := k1.1
      refine mw_puti dX7_go_261 fl_X7_207 ft_7_10 rfl (rfl) rfl (by assumption) ?_
      refine mw_aload_n dX7_go_264 rfl ?_
      refine mw_aload_n dX7_go_265 rfl ?_
      refine mw_geti dX7_go_266 fl_X7_198 rfl (by assumption) ?_
      rw [e8']
      refine mw_puti dX7_go_269 fl_X7_204 ft_7_12 rfl (rfl) rfl (by assumption) ?_
      refine mw_goto (tgt := 303) dX7_go_272 (by decide) ?_
      exact mw_vret dX7_go_303 rfl (by decide) (by decide) (⟨rfl, rfl, by rw [hgo, hg, htk]; exact k1.u12, (hF.up (by decide)).up (by decide)⟩)
    refine mw_aload_n dX7_go_238 rfl ?_
    refine mw_iload_n dX7_go_239 rfl ?_
    refine mw_if_ne (tgt := 256) dX7_go_240 (by decide) (fun h240 => ?_) (fun h240 => ?_)
    · skip
      refine mw_iconst (v := 4) dX7_go_256 (by decide) ?_
      refine mw_goto (tgt := 261) dX7_go_257 (by decide) ?_
      first
        | (have c : 4 < nx - fm := (by rcases Nat.lt_or_ge 4 (nx - fm) with g | g; exact g; exact absurd (nI_le (b := 4) g (by decide)) h253); exact s261 4 (if_pos (Or.inr c)))
        | (have c : ¬ 4 < nx - fm := fun g => absurd h253 (Int32.not_le.mpr (nI_lt (a := 4) g (by omega))); have c2 : ¬ nI fm = ed := (by rcases hc with g | g; exact absurd (g.1.symm.trans h240) (by decide); exact g.2); exact s261 2 (if_neg (fun g => g.elim c2 c)))
        | (have c2 : nI fm = ed := (by rcases hc with g | g; exact g.2; exact absurd g.1 h240); exact s261 4 (if_pos (Or.inl c2)))
        | fail "stop"
    · skip
      refine mw_aload_n dX7_go_243 rfl ?_
      refine mw_geti dX7_go_244 fl_X7_198 rfl (by assumption) ?_
      rw [e8]
      refine mw_aload_n dX7_go_247 rfl ?_
      refine mw_geti dX7_go_248 fl_X7_201 rfl (by assumption) ?_
      rw [e9]
      refine mw_isub dX7_go_251 ?_
      rw [ee]
      refine mw_iconst (v := 4) dX7_go_252 (by decide) ?_
      refine mw_icmp_le (tgt := 260) dX7_go_253 (by decide) (fun h253 => ?_) (fun h253 => ?_)
      · skip
        refine mw_iconst (v := 2) dX7_go_260 (by decide) ?_
        first
          | (have c : 4 < nx - fm := (by rcases Nat.lt_or_ge 4 (nx - fm) with g | g; exact g; exact absurd (nI_le (b := 4) g (by decide)) h253); exact s261 4 (if_pos (Or.inr c)))
          | (have c : ¬ 4 < nx - fm := fun g => absurd h253 (Int32.not_le.mpr (nI_lt (a := 4) g (by omega))); have c2 : ¬ nI fm = ed := (by rcases hc with g | g; exact absurd (g.1.symm.trans h240) (by decide); exact g.2); exact s261 2 (if_neg (fun g => g.elim c2 c)))
          | (have c2 : nI fm = ed := (by rcases hc with g | g; exact g.2; exact absurd g.1 h240); exact s261 4 (if_pos (Or.inl c2)))
          | fail "stop"
      · skip
        refine mw_iconst (v := 4) dX7_go_256 (by decide) ?_
        refine mw_goto (tgt := 261) dX7_go_257 (by decide) ?_
        first
          | (have c : 4 < nx - fm := (by rcases Nat.lt_or_ge 4 (nx - fm) with g | g; exact g; exact absurd (nI_le (b := 4) g (by decide)) h253); exact s261 4 (if_pos (Or.inr c)))
          | (have c : ¬ 4 < nx - fm := fun g => absurd h253 (Int32.not_le.mpr (nI_lt (a := 4) g (by omega))); have c2 : ¬ nI fm = ed := (by rcases hc with g | g; exact absurd (g.1.symm.trans h240) (by decide); exact g.2); exact s261 2 (if_neg (fun g => g.elim c2 c)))
          | (have c2 : nI fm = ed := (by rcases hc with g | g; exact g.2; exact absurd g.1 h240); exact s261 4 (if_pos (Or.inl c2)))
          | fail "stop"
  have lp170 : ∀ (ci : Int32) nx, ((ci = 1 ∧ nI fm = ed) ∨ (ci = 0 ∧ ¬ nI fm = ed)) → fm ≠ len → srtN b len fm = 2 → skW b len 2 (len - fm) fm = nx → ∀ f p m, f = len - p → fm ≤ p → p ≤ len → skW b len 2 f p = nx → TkG m o (p, fm, t0, mnF b fm (p - fm), ed) → FrG o mi m → MW X fX7_go (rmOf 1 0 0) 0 0 170 [some (rf X o), some (.int ci)] [] S m (mQ X 0 0 (fun r S' m => r = none ∧ S' = S ∧ TkG m o (goS b len (n0, f0, t0, v0, ed)) ∧ FrG o mi m)) := by
    intro ci nx hc h1 h2 h3 f
    induction f with
    | zero =>
      intro p m hf hp1 hp2 hk hm hF
      have e8 : m o 8 = nI p := hm.1
      have hpe : p = nx := hk
      refine mw_aload_n dX7_go_170 rfl ?_
      refine mw_aload_n dX7_go_171 rfl ?_
      refine mw_geti dX7_go_172 fl_X7_198 rfl (by assumption) ?_
      rw [e8]
      refine mw_cVI (g := fX7_isFigure) dX7_go_175 ml_X7_216 mfX7_isFigure (ok_X7_isFigure (p := p) hM (hB.fr hF) hl (by omega)) (by assumption) rfl rfl (Nat.le_of_ble_eq_true rfl) ⟨by decide, by decide⟩ ⟨by decide, by decide⟩ ?_
      refine mw_if_eqB (tgt := 238) dX7_go_178 (by decide) (fun h178 => ?_) (fun h178 => ?_)
      · skip
        exact s238 ci nx m hc h1 h2 h3 (by omega) (by omega) (by rw [← hpe]; exact hm) hF
      · skip
        exact absurd (srt_2.mp h178).1 (by omega)
    | succ f ih =>
      intro p m hf hp1 hp2 hk hm hF
      have e8 : m o 8 = nI p := hm.1
      have e9 : m o 9 = nI fm := hm.2.1
      have e11 : m o 11 = mnF b fm (p - fm) := hm.2.2.2.1
      have hBm := hB.fr hF
      have eb : m (o + 6) p = b p := by rw [hBm.1]
      have ee : nI p - nI fm = nI (p - fm) := pk_sub hp1
      simp only [skW] at hk
      have s222 : ∀ v, v = mnF b fm (p + 1 - fm) → p < len ∧ srtN b len p = 2 → MW X fX7_go (rmOf 1 0 0) 0 0 222 [some (rf X o), some (.int ci)] [.int v, rf X o] S m (mQ X 0 0 (fun r S' m => r = none ∧ S' = S ∧ TkG m o (goS b len (n0, f0, t0, v0, ed)) ∧ FrG o mi m)) := by
        intro v hv hg
        rw [if_pos hg] at hk
        have k1 : TkG (m_up m o 11 v) o (p, fm, t0, v, ed) := hm.u11
        have e8' : m_up m o 11 v o 8 = nI p := k1.1
        refine mw_puti dX7_go_222 fl_X7_213 ft_7_11 rfl (rfl) rfl (by assumption) ?_
        refine mw_aload_n dX7_go_225 rfl ?_
        refine mw_dup dX7_go_226 rfl ?_
        refine mw_geti dX7_go_227 fl_X7_198 rfl (by assumption) ?_
        rw [e8']
        refine mw_iconst (v := 1) dX7_go_230 (by decide) ?_
        refine mw_iadd dX7_go_231 ?_
        rw [nI_1]
        refine mw_puti dX7_go_232 fl_X7_198 ft_7_8 rfl (rfl) rfl (by assumption) ?_
        refine mw_goto (tgt := 170) dX7_go_235 (by decide) ?_
        exact ih (p + 1) _ (by omega) (by omega) (by omega) hk (by rw [← hv]; exact k1.u8) ((hF.up (by decide)).up (by decide))
      refine mw_aload_n dX7_go_170 rfl ?_
      refine mw_aload_n dX7_go_171 rfl ?_
      refine mw_geti dX7_go_172 fl_X7_198 rfl (by assumption) ?_
      rw [e8]
      refine mw_cVI (g := fX7_isFigure) dX7_go_175 ml_X7_216 mfX7_isFigure (ok_X7_isFigure (p := p) hM hBm hl (by omega)) (by assumption) rfl rfl (Nat.le_of_ble_eq_true rfl) ⟨by decide, by decide⟩ ⟨by decide, by decide⟩ ?_
      refine mw_if_eqB (tgt := 238) dX7_go_178 (by decide) (fun h178 => ?_) (fun h178 => ?_)
      · skip
        rw [if_neg (fun g => h178 g.2)] at hk
        exact s238 ci nx m hc h1 h2 h3 (by omega) (by omega) (by rw [← hk]; exact hm) hF
      · skip
        refine mw_aload_n dX7_go_181 rfl ?_
        refine mw_aload_n dX7_go_182 rfl ?_
        refine mw_geti dX7_go_183 fl_X7_198 rfl (by assumption) ?_
        rw [e8]
        refine mw_aload_n dX7_go_186 rfl ?_
        refine mw_geti dX7_go_187 fl_X7_201 rfl (by assumption) ?_
        rw [e9]
        refine mw_isub dX7_go_190 ?_
        rw [ee]
        refine mw_iconst (v := 4) dX7_go_191 (by decide) ?_
        refine mw_icmp_ge (tgt := 218) dX7_go_192 (by decide) (fun h192 => ?_) (fun h192 => ?_)
        · skip
          refine mw_aload_n dX7_go_218 rfl ?_
          refine mw_geti dX7_go_219 fl_X7_213 rfl k_o ?_
          rw [e11]
          skip
          first
            | (have c : p - fm < 4 := (nI_ltI (b := 4) (by omega) (by decide)).mp (Int32.not_le.mp h192); exact s222 _ (by rw [show p + 1 - fm = (p - fm) + 1 by omega, mnF, if_pos c, show fm + (p - fm) = p by omega]) (srt_2.mp h178 |>.1 |> fun g => ⟨g, h178⟩))
            | (have c : ¬ p - fm < 4 := fun g => absurd h192 (nI_ge (b := 4) g (by decide)); exact s222 _ (by rw [show p + 1 - fm = (p - fm) + 1 by omega, mnF, if_neg c]) ⟨(srt_2.mp h178).1, h178⟩)
            | fail "stop"
        · skip
          refine mw_bipush (v := 10) dX7_go_195 (by decide) ?_
          refine mw_aload_n dX7_go_197 rfl ?_
          refine mw_geti dX7_go_198 fl_X7_213 rfl (by assumption) ?_
          rw [e11]
          refine mw_imul dX7_go_201 ?_
          refine mw_aload_n dX7_go_202 rfl ?_
          refine mw_getr dX7_go_203 fl_X7_25 rfl (by assumption) (by assumption) ?_
          refine mw_aload_n dX7_go_206 rfl ?_
          refine mw_geti dX7_go_207 fl_X7_198 rfl (by assumption) ?_
          rw [e8]
          refine mw_ialdK (k := p) dX7_go_210 (by assumption) (rfl) (by omega) (by decide) ?_
          rw [eb]
          refine mw_iadd dX7_go_211 ?_
          refine mw_bipush (v := 48) dX7_go_212 (by decide) ?_
          refine mw_isub dX7_go_214 ?_
          refine mw_goto (tgt := 222) dX7_go_215 (by decide) ?_
          skip
          first
            | (have c : p - fm < 4 := (nI_ltI (b := 4) (by omega) (by decide)).mp (Int32.not_le.mp h192); exact s222 _ (by rw [show p + 1 - fm = (p - fm) + 1 by omega, mnF, if_pos c, show fm + (p - fm) = p by omega]) (srt_2.mp h178 |>.1 |> fun g => ⟨g, h178⟩))
            | (have c : ¬ p - fm < 4 := fun g => absurd h192 (nI_ge (b := 4) g (by decide)); exact s222 _ (by rw [show p + 1 - fm = (p - fm) + 1 by omega, mnF, if_neg c]) ⟨(srt_2.mp h178).1, h178⟩)
            | fail "stop"
  have s117 : ∀ (ci : Int32) nx m, ((ci = 1 ∧ nI fm = ed) ∨ (ci = 0 ∧ ¬ nI fm = ed)) → fm < len → srtN b len fm = 1 → skW b len 1 (len - fm) fm = nx → TkG m o (nx, fm, t0, v0, ed) → FrG o mi m → MW X fX7_go (rmOf 1 0 0) 0 0 117 [some (rf X o), some (.int ci)] [] S m (mQ X 0 0 (fun r S' m => r = none ∧ S' = S ∧ TkG m o (goS b len (n0, f0, t0, v0, ed)) ∧ FrG o mi m)) := by
    intro ci nx m hc h1 h2 h3 hm hF
    have hBm := hB.fr hF
    have hg : gosF b len fm v0 ed = (nx, fm, (if nI fm = ed then 4 else 1), b fm, nI nx) := by rw [gosF, if_neg (by omega), if_pos h2, h3]
    have s127 : ∀ tk, (if nI fm = ed then 4 else 1) = tk → MW X fX7_go (rmOf 1 0 0) 0 0 127 [some (rf X o), some (.int ci)] [.int (nI tk), rf X o] S m (mQ X 0 0 (fun r S' m => r = none ∧ S' = S ∧ TkG m o (goS b len (n0, f0, t0, v0, ed)) ∧ FrG o mi m)) := by
      intro tk htk
      have k1 : TkG (m_up m o 10 (nI tk)) o (nx, fm, tk, v0, ed) := hm.u10
      have e9 : m_up m o 10 (nI tk) o 9 = nI fm := k1.2.1
      have eb : m_up m o 10 (nI tk) (o + 6) fm = b fm := by rw [m_up_ne (by omega), hBm.1]
      have k2 : TkG (m_up (m_up m o 10 (nI tk)) o 11 (b fm)) o (nx, fm, tk, b fm, ed) := k1.u11
      have e8 : m_up (m_up m o 10 (nI tk)) o 11 (b fm) o 8 = nI nx := k2.1
      refine mw_puti dX7_go_127 fl_X7_207 ft_7_10 rfl (rfl) rfl (by assumption) ?_
      refine mw_aload_n dX7_go_130 rfl ?_
      refine mw_aload_n dX7_go_131 rfl ?_
      refine mw_getr dX7_go_132 fl_X7_25 rfl (by assumption) (by assumption) ?_
      refine mw_aload_n dX7_go_135 rfl ?_
      refine mw_geti dX7_go_136 fl_X7_201 rfl (by assumption) ?_
      rw [e9]
      refine mw_ialdK (k := fm) dX7_go_139 (by assumption) (rfl) (by omega) (by decide) ?_
      rw [eb]
      refine mw_puti dX7_go_140 fl_X7_213 ft_7_11 rfl (rfl) rfl (by assumption) ?_
      refine mw_aload_n dX7_go_143 rfl ?_
      refine mw_aload_n dX7_go_144 rfl ?_
      refine mw_geti dX7_go_145 fl_X7_198 rfl (by assumption) ?_
      rw [e8]
      refine mw_puti dX7_go_148 fl_X7_204 ft_7_12 rfl (rfl) rfl (by assumption) ?_
      refine mw_goto (tgt := 303) dX7_go_151 (by decide) ?_
      exact mw_vret dX7_go_303 rfl (by decide) (by decide) (⟨rfl, rfl, by rw [hgo, hg, htk]; exact k2.u12, ((hF.up (by decide)).up (by decide)).up (by decide)⟩)
    refine mw_aload_n dX7_go_117 rfl ?_
    refine mw_iload_n dX7_go_118 rfl ?_
    refine mw_if_eq (tgt := 126) dX7_go_119 (by decide) (fun h119 => ?_) (fun h119 => ?_)
    · skip
      refine mw_iconst (v := 1) dX7_go_126 (by decide) ?_
      first
        | (have c : ¬ nI fm = ed := (by rcases hc with g | g; exact absurd (g.1.symm.trans h119) (by decide); exact g.2); exact s127 1 (if_neg c))
        | (have c : nI fm = ed := (by rcases hc with g | g; exact g.2; exact absurd g.1 h119); exact s127 4 (if_pos c))
        | fail "stop"
    · skip
      refine mw_iconst (v := 4) dX7_go_122 (by decide) ?_
      refine mw_goto (tgt := 127) dX7_go_123 (by decide) ?_
      first
        | (have c : ¬ nI fm = ed := (by rcases hc with g | g; exact absurd (g.1.symm.trans h119) (by decide); exact g.2); exact s127 1 (if_neg c))
        | (have c : nI fm = ed := (by rcases hc with g | g; exact g.2; exact absurd g.1 h119); exact s127 4 (if_pos c))
        | fail "stop"
  have lp93 : ∀ (ci : Int32) nx, ((ci = 1 ∧ nI fm = ed) ∨ (ci = 0 ∧ ¬ nI fm = ed)) → fm < len → srtN b len fm = 1 → skW b len 1 (len - fm) fm = nx → ∀ f p m, f = len - p → p ≤ len → skW b len 1 f p = nx → TkG m o (p, fm, t0, v0, ed) → FrG o mi m → MW X fX7_go (rmOf 1 0 0) 0 0 93 [some (rf X o), some (.int ci)] [] S m (mQ X 0 0 (fun r S' m => r = none ∧ S' = S ∧ TkG m o (goS b len (n0, f0, t0, v0, ed)) ∧ FrG o mi m)) := by
    intro ci nx hc h1 h2 h3 f
    induction f with
    | zero =>
      intro p m hf hp2 hk hm hF
      have e8 : m o 8 = nI p := hm.1
      have hpe : p = nx := hk
      refine mw_aload_n dX7_go_93 rfl ?_
      refine mw_aload_n dX7_go_94 rfl ?_
      refine mw_geti dX7_go_95 fl_X7_198 rfl (by assumption) ?_
      rw [e8]
      refine mw_cVI (g := fX7_isLetter) dX7_go_98 ml_X7_210 mfX7_isLetter (ok_X7_isLetter (p := p) hM (hB.fr hF) hl (by omega)) (by assumption) rfl rfl (Nat.le_of_ble_eq_true rfl) ⟨by decide, by decide⟩ ⟨by decide, by decide⟩ ?_
      refine mw_if_eqB (tgt := 117) dX7_go_101 (by decide) (fun h101 => ?_) (fun h101 => ?_)
      · skip
        exact s117 ci nx m hc h1 h2 h3 (by rw [← hpe]; exact hm) hF
      · skip
        exact absurd (srt_1.mp h101).1 (by omega)
    | succ f ih =>
      intro p m hf hp2 hk hm hF
      have e8 : m o 8 = nI p := hm.1
      simp only [skW] at hk
      refine mw_aload_n dX7_go_93 rfl ?_
      refine mw_aload_n dX7_go_94 rfl ?_
      refine mw_geti dX7_go_95 fl_X7_198 rfl (by assumption) ?_
      rw [e8]
      refine mw_cVI (g := fX7_isLetter) dX7_go_98 ml_X7_210 mfX7_isLetter (ok_X7_isLetter (p := p) hM (hB.fr hF) hl (by omega)) (by assumption) rfl rfl (Nat.le_of_ble_eq_true rfl) ⟨by decide, by decide⟩ ⟨by decide, by decide⟩ ?_
      refine mw_if_eqB (tgt := 117) dX7_go_101 (by decide) (fun h101 => ?_) (fun h101 => ?_)
      · skip
        rw [if_neg (fun g => h101 g.2)] at hk
        exact s117 ci nx m hc h1 h2 h3 (by rw [← hk]; exact hm) hF
      · skip
        refine mw_aload_n dX7_go_104 rfl ?_
        refine mw_dup dX7_go_105 rfl ?_
        refine mw_geti dX7_go_106 fl_X7_198 rfl (by assumption) ?_
        rw [e8]
        refine mw_iconst (v := 1) dX7_go_109 (by decide) ?_
        refine mw_iadd dX7_go_110 ?_
        rw [nI_1]
        refine mw_puti dX7_go_111 fl_X7_198 ft_7_8 rfl (rfl) rfl (by assumption) ?_
        refine mw_goto (tgt := 93) dX7_go_114 (by decide) ?_
        rw [if_pos (And.intro (show p < len by omega) h101)] at hk
        exact ih (p + 1) _ (by omega) (by omega) hk hm.u8 (hF.up (by decide))
  have s63 : ∀ (ci : Int32) m, ((ci = 1 ∧ nI fm = ed) ∨ (ci = 0 ∧ ¬ nI fm = ed)) → TkG m o (fm, fm, t0, v0, ed) → FrG o mi m → MW X fX7_go (rmOf 1 0 0) 0 0 63 [some (rf X o), some (.int ci)] [] S m (mQ X 0 0 (fun r S' m => r = none ∧ S' = S ∧ TkG m o (goS b len (n0, f0, t0, v0, ed)) ∧ FrG o mi m)) := by
    intro ci m hc hm hF
    have hBm := hB.fr hF
    have e9 : m o 9 = nI fm := hm.2.1
    have e7 : m o 7 = nI len := hBm.2
    have il : nI fm = nI len ↔ fm = len := nI_eq (by omega) (by omega)
    have eb : m (o + 6) fm = b fm := by rw [hBm.1]
    refine mw_aload_n dX7_go_63 rfl ?_
    refine mw_geti dX7_go_64 fl_X7_201 rfl (by assumption) ?_
    rw [e9]
    refine mw_aload_n dX7_go_67 rfl ?_
    refine mw_geti dX7_go_68 fl_X7_194 rfl (by assumption) ?_
    rw [e7]
    refine mw_icmp_ne (tgt := 82) dX7_go_71 (by decide) (fun h71 => ?_) (fun h71 => ?_)
    · skip
      have nl : ¬ fm = len := fun g => h71 (il.mpr g)
      refine mw_aload_n dX7_go_82 rfl ?_
      refine mw_aload_n dX7_go_83 rfl ?_
      refine mw_geti dX7_go_84 fl_X7_201 rfl (by assumption) ?_
      rw [e9]
      refine mw_cVI (g := fX7_isLetter) dX7_go_87 ml_X7_210 mfX7_isLetter (ok_X7_isLetter (p := fm) hM hBm hl (by omega)) (by assumption) rfl rfl (Nat.le_of_ble_eq_true rfl) ⟨by decide, by decide⟩ ⟨by decide, by decide⟩ ?_
      refine mw_if_eqB (tgt := 154) dX7_go_90 (by decide) (fun h90 => ?_) (fun h90 => ?_)
      · skip
        refine mw_aload_n dX7_go_154 rfl ?_
        refine mw_aload_n dX7_go_155 rfl ?_
        refine mw_geti dX7_go_156 fl_X7_201 rfl (by assumption) ?_
        rw [e9]
        refine mw_cVI (g := fX7_isFigure) dX7_go_159 ml_X7_216 mfX7_isFigure (ok_X7_isFigure (p := fm) hM hBm hl (by omega)) (by assumption) rfl rfl (Nat.le_of_ble_eq_true rfl) ⟨by decide, by decide⟩ ⟨by decide, by decide⟩ ?_
        refine mw_if_eqB (tgt := 275) dX7_go_162 (by decide) (fun h162 => ?_) (fun h162 => ?_)
        · skip
          refine mw_aload_n dX7_go_275 rfl ?_
          refine mw_iconst (v := 3) dX7_go_276 (by decide) ?_
          refine mw_puti dX7_go_277 fl_X7_207 ft_7_10 rfl (rfl) rfl (by assumption) ?_
          have k1 : TkG (m_up m o 10 3) o (fm, fm, 3, v0, ed) := hm.u10 (v := 3)
          have e9' : m_up m o 10 3 o 9 = nI fm := k1.2.1
          have eb' : m_up m o 10 3 (o + 6) fm = b fm := by rw [m_up_ne (by omega)]; exact eb
          have k2 : TkG (m_up (m_up m o 10 3) o 11 (b fm)) o (fm, fm, 3, b fm, ed) := k1.u11
          have e8' : m_up (m_up m o 10 3) o 11 (b fm) o 8 = nI fm := k2.1
          refine mw_aload_n dX7_go_280 rfl ?_
          refine mw_aload_n dX7_go_281 rfl ?_
          refine mw_getr dX7_go_282 fl_X7_25 rfl (by assumption) (by assumption) ?_
          refine mw_aload_n dX7_go_285 rfl ?_
          refine mw_geti dX7_go_286 fl_X7_201 rfl (by assumption) ?_
          rw [e9']
          refine mw_ialdK (k := fm) dX7_go_289 (by assumption) (rfl) (by omega) (by decide) ?_
          rw [eb']
          refine mw_puti dX7_go_290 fl_X7_213 ft_7_11 rfl (rfl) rfl (by assumption) ?_
          refine mw_aload_n dX7_go_293 rfl ?_
          refine mw_dup dX7_go_294 rfl ?_
          refine mw_geti dX7_go_295 fl_X7_198 rfl (by assumption) ?_
          rw [e8']
          refine mw_iconst (v := 1) dX7_go_298 (by decide) ?_
          refine mw_iadd dX7_go_299 ?_
          rw [nI_1]
          refine mw_puti dX7_go_300 fl_X7_198 ft_7_8 rfl (rfl) rfl (by assumption) ?_
          exact mw_vret dX7_go_303 rfl (by decide) (by decide) (by first | (have c : fm = len := il.mp h71; exact ⟨rfl, rfl, by rw [hgo, gosF, if_pos c]; exact hm.u10 (v := 0), hF.up (by decide)⟩) | exact ⟨rfl, rfl, by rw [hgo, gosF, if_neg nl, if_neg h90, if_neg h162]; exact k2.u8, ((hF.up (by decide)).up (by decide)).up (by decide)⟩ | fail "leaf")
        · skip
          refine mw_aload_n dX7_go_165 rfl ?_
          refine mw_iconst (v := 0) dX7_go_166 (by decide) ?_
          refine mw_puti dX7_go_167 fl_X7_213 ft_7_11 rfl (rfl) rfl (by assumption) ?_
          exact lp170 ci _ hc nl h162 rfl (len - fm) fm _ rfl (Nat.le_refl _) gb.2 rfl (by rw [Nat.sub_self]; exact hm.u11) (hF.up (by decide))
      · skip
        exact lp93 ci _ hc (by omega) h90 rfl (len - fm) fm m rfl gb.2 rfl hm hF
    · skip
      refine mw_aload_n dX7_go_74 rfl ?_
      refine mw_iconst (v := 0) dX7_go_75 (by decide) ?_
      refine mw_puti dX7_go_76 fl_X7_207 ft_7_10 rfl (rfl) rfl (by assumption) ?_
      refine mw_goto (tgt := 303) dX7_go_79 (by decide) ?_
      exact mw_vret dX7_go_303 rfl (by decide) (by decide) (by first | (have c : fm = len := il.mp h71; exact ⟨rfl, rfl, by rw [hgo, gosF, if_pos c]; exact hm.u10 (v := 0), hF.up (by decide)⟩) | exact ⟨rfl, rfl, by rw [hgo, gosF, if_neg nl, if_neg h90, if_neg h162]; exact k2.u8, ((hF.up (by decide)).up (by decide)).up (by decide)⟩ | fail "leaf")
  have s38 : ∀ m, TkG m o (fm, f0, t0, v0, ed) → FrG o mi m → MW X fX7_go (rmOf 1 0 0) 0 0 38 [some (rf X o), none] [] S m (mQ X 0 0 (fun r S' m => r = none ∧ S' = S ∧ TkG m o (goS b len (n0, f0, t0, v0, ed)) ∧ FrG o mi m)) := by
    intro m hm hF
    have e8 : m o 8 = nI fm := hm.1
    have k1 : TkG (m_up m o 9 (nI fm)) o (fm, fm, t0, v0, ed) := hm.u9
    have e9 : m_up m o 9 (nI fm) o 9 = nI fm := k1.2.1
    have e12 : m_up m o 9 (nI fm) o 12 = ed := k1.2.2.2.2
    refine mw_aload_n dX7_go_38 rfl ?_
    refine mw_aload_n dX7_go_39 rfl ?_
    refine mw_geti dX7_go_40 fl_X7_198 rfl (by assumption) ?_
    rw [e8]
    refine mw_puti dX7_go_43 fl_X7_201 ft_7_9 rfl (rfl) rfl (by assumption) ?_
    refine mw_aload_n dX7_go_46 rfl ?_
    refine mw_geti dX7_go_47 fl_X7_201 rfl (by assumption) ?_
    rw [e9]
    refine mw_aload_n dX7_go_50 rfl ?_
    refine mw_geti dX7_go_51 fl_X7_204 rfl (by assumption) ?_
    rw [e12]
    refine mw_icmp_ne (tgt := 61) dX7_go_54 (by decide) (fun h54 => ?_) (fun h54 => ?_)
    · skip
      refine mw_iconst (v := 0) dX7_go_61 (by decide) ?_
      refine mw_istN 1 dX7_go_62 rfl (by decide) ?_
      first
        | exact s63 0 _ (Or.inr ⟨rfl, h54⟩) k1 (hF.up (by decide))
        | exact s63 1 _ (Or.inl ⟨rfl, h54⟩) k1 (hF.up (by decide))
        | fail "stop"
    · skip
      refine mw_iconst (v := 1) dX7_go_57 (by decide) ?_
      refine mw_goto (tgt := 62) dX7_go_58 (by decide) ?_
      refine mw_istN 1 dX7_go_62 rfl (by decide) ?_
      first
        | exact s63 0 _ (Or.inr ⟨rfl, h54⟩) k1 (hF.up (by decide))
        | exact s63 1 _ (Or.inl ⟨rfl, h54⟩) k1 (hF.up (by decide))
        | fail "stop"
  have lp0 : ∀ f p m, f = len - p → p ≤ len → skB b len f p = fm → TkG m o (p, f0, t0, v0, ed) → FrG o mi m → MW X fX7_go (rmOf 1 0 0) 0 0 0 [some (rf X o), none] [] S m (mQ X 0 0 (fun r S' m => r = none ∧ S' = S ∧ TkG m o (goS b len (n0, f0, t0, v0, ed)) ∧ FrG o mi m)) := by
    intro f
    induction f with
    | zero =>
      intro p m hf hp hk hm hF
      have e8 : m o 8 = nI p := hm.1
      have e7 : m o 7 = nI len := (hB.fr hF).2
      have hpe : p = fm := hk
      refine mw_aload_n dX7_go_0 rfl ?_
      refine mw_geti dX7_go_1 fl_X7_198 rfl (by assumption) ?_
      rw [e8]
      refine mw_aload_n dX7_go_4 rfl ?_
      refine mw_geti dX7_go_5 fl_X7_194 rfl (by assumption) ?_
      rw [e7]
      refine mw_icmp_ge (tgt := 38) dX7_go_8 (by decide) (fun h8 => ?_) (fun h8 => ?_)
      · skip
        exact s38 m (by rw [← hpe]; exact hm) hF
      · skip
        exact absurd (nI_le (show len ≤ p by omega) (by omega)) h8
    | succ f ih =>
      intro p m hf hp hk hm hF
      have e8 : m o 8 = nI p := hm.1
      have hBm := hB.fr hF
      have e7 : m o 7 = nI len := hBm.2
      have eb : m (o + 6) p = b p := by rw [hBm.1]
      simp only [skB] at hk
      refine mw_aload_n dX7_go_0 rfl ?_
      refine mw_geti dX7_go_1 fl_X7_198 rfl (by assumption) ?_
      rw [e8]
      refine mw_aload_n dX7_go_4 rfl ?_
      refine mw_geti dX7_go_5 fl_X7_194 rfl (by assumption) ?_
      rw [e7]
      refine mw_icmp_ge (tgt := 38) dX7_go_8 (by decide) (fun h8 => ?_) (fun h8 => ?_)
      · skip
        first
          | exact absurd h8 (nI_ge (by omega) (by omega))
          | (rw [if_neg (fun g => h22 g.2)] at hk; exact s38 m (by rw [← hk]; exact hm) hF)
          | fail "stop"
      · skip
        refine mw_aload_n dX7_go_11 rfl ?_
        refine mw_getr dX7_go_12 fl_X7_25 rfl (by assumption) (by assumption) ?_
        refine mw_aload_n dX7_go_15 rfl ?_
        refine mw_geti dX7_go_16 fl_X7_198 rfl (by assumption) ?_
        rw [e8]
        refine mw_ialdK (k := p) dX7_go_19 (by assumption) (rfl) (by omega) (by decide) ?_
        rw [eb]
        refine mw_bipush (v := 32) dX7_go_20 (by decide) ?_
        refine mw_icmp_ne (tgt := 38) dX7_go_22 (by decide) (fun h22 => ?_) (fun h22 => ?_)
        · skip
          first
            | exact absurd h8 (nI_ge (by omega) (by omega))
            | (rw [if_neg (fun g => h22 g.2)] at hk; exact s38 m (by rw [← hk]; exact hm) hF)
            | fail "stop"
        · skip
          refine mw_aload_n dX7_go_25 rfl ?_
          refine mw_dup dX7_go_26 rfl ?_
          refine mw_geti dX7_go_27 fl_X7_198 rfl (by assumption) ?_
          rw [e8]
          refine mw_iconst (v := 1) dX7_go_30 (by decide) ?_
          refine mw_iadd dX7_go_31 ?_
          rw [nI_1]
          refine mw_puti dX7_go_32 fl_X7_198 ft_7_8 rfl (rfl) rfl (by assumption) ?_
          refine mw_goto (tgt := 0) dX7_go_35 (by decide) ?_
          rw [if_pos (And.intro (show p < len by omega) h22)] at hk
          exact ih (p + 1) _ (by omega) (by omega) hk hm.u8 (hF.up (by decide))
  exact lp0 (len - n0) n0 mi rfl hn hfm hG (FrG.rf _ _)
set_option maxRecDepth 100000 in
set_option maxHeartbeats 4000000 in
theorem ok_X7_go {X : Xb} {S : Sg} {mi : Mem} {o len : Nat} {b : Nat → Int32} {G : Gt} (hM : MdA S o) (hB : TpM mi o b len) (hl : len ≤ 96) (hG : TkG mi o G) (hn : G.1 ≤ len) : Ok 1 0 0 fX7_go X [rf X o] S mi (fun r S' m => r = none ∧ S' = S ∧ TkG m o (goS b len G) ∧ FrG o mi m) :=
  ok_X7_goT (n0 := G.1) (f0 := G.2.1) (t0 := G.2.2.1) (v0 := G.2.2.2.1) (ed := G.2.2.2.2) hM hB hl hG hn
