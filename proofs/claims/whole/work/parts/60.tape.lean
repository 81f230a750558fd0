/-! the tape: words and signs -/
def srtN (b : Nat → Int32) (len p : Nat) : Nat := if p < len then (if 97 ≤ b p ∧ b p ≤ 122 then 1 else if 48 ≤ b p ∧ b p ≤ 57 then 2 else 3) else 0
def skB (b : Nat → Int32) (len : Nat) : Nat → Nat → Nat
  | 0, p => p
  | f + 1, p => if p < len ∧ b p = 32 then skB b len f (p + 1) else p
def skW (b : Nat → Int32) (len s : Nat) : Nat → Nat → Nat
  | 0, p => p
  | f + 1, p => if p < len ∧ srtN b len p = s then skW b len s f (p + 1) else p
theorem skB_le {b : Nat → Int32} {len : Nat} : ∀ f p, p ≤ len → p ≤ skB b len f p ∧ skB b len f p ≤ len
  | 0, p, h => ⟨Nat.le_refl _, h⟩
  | f + 1, p, h => by
    simp only [skB]
    split
    · have := skB_le (b := b) (len := len) f (p + 1) (by omega)
      omega
    · omega
theorem skW_le {b : Nat → Int32} {len s : Nat} : ∀ f p, p ≤ len → p ≤ skW b len s f p ∧ skW b len s f p ≤ len
  | 0, p, h => ⟨Nat.le_refl _, h⟩
  | f + 1, p, h => by
    simp only [skW]
    split
    · have := skW_le (b := b) (len := len) (s := s) f (p + 1) (by omega)
      omega
    · omega
/-- begin, end, sort; opens, nots, leaves; steps -/
abbrev Ps : Type := (Nat × Nat × Nat) × (Nat × Nat × Nat) × List Int32
def advS (b : Nat → Int32) (len : Nat) (w : Bool) (e bg : Nat) : Nat × Nat × Nat := if srtN b len bg = 3 then (bg, bg + 1, 3) else if srtN b len bg = 0 then (bg, bg, 0) else (bg, skW b len (srtN b len bg) (len - bg) bg, if (w && decide (bg = e)) = true then 4 else srtN b len bg)
def isW (s : Nat) : Bool := decide (s = 1) || decide (s = 2)
def adv (b : Nat → Int32) (len : Nat) (P : Ps) : Ps := (advS b len (isW P.1.2.2) P.1.2.1 (skB b len (len - P.1.2.1) P.1.2.1), P.2)
def Pb (len : Nat) (P : Ps) : Prop := P.1.1 ≤ P.1.2.1 ∧ P.1.2.1 ≤ len ∧ P.1.2.2 ≤ 4 ∧ P.2.1.1 ≤ 8 ∧ P.2.1.2.1 ≤ 8 ∧ P.2.2.length ≤ 96 ∧ len ≤ 96
theorem srtN_le (b : Nat → Int32) (len p : Nat) : srtN b len p ≤ 3 := by
  unfold srtN
  split
  · split
    · omega
    · split <;> omega
  · omega
theorem srtN_lt {b : Nat → Int32} {len p : Nat} (h : srtN b len p ≠ 0) : p < len := by
  unfold srtN at h
  split at h
  · assumption
  · exact absurd rfl h
theorem pb_adv {b : Nat → Int32} {len : Nat} {P : Ps} (h : Pb len P) : Pb len (adv b len P) := by
  obtain ⟨h1, h2, h3, h4, h5, h6, h7⟩ := h
  have g1 := skB_le (b := b) (len := len) (len - P.1.2.1) P.1.2.1 h2
  unfold Pb adv
  dsimp only
  generalize skB b len (len - P.1.2.1) P.1.2.1 = bg at g1
  have g3 := srtN_le b len bg
  unfold advS
  split
  · rename_i g
    have := srtN_lt (b := b) (len := len) (p := bg) (by omega)
    exact ⟨by dsimp only; omega, by dsimp only; omega, by dsimp only; omega, h4, h5, h6, h7⟩
  · split
    · exact ⟨by dsimp only; omega, by dsimp only; omega, by dsimp only; omega, h4, h5, h6, h7⟩
    · have g2 := skW_le (b := b) (len := len) (s := srtN b len bg) (len - bg) bg (by omega)
      refine ⟨by dsimp only; omega, by dsimp only; omega, ?_, h4, h5, h6, h7⟩
      dsimp only
      split <;> omega
def TpS (m : Mem) (q : Nat) (P : Ps) : Prop := m q 2 = nI P.1.1 ∧ m q 3 = nI P.1.2.1 ∧ m q 4 = nI P.1.2.2 ∧ m q 6 = nI P.2.1.1 ∧ m q 7 = nI P.2.1.2.1 ∧ m q 8 = nI P.2.1.2.2 ∧ m q 10 = nI P.2.2.length ∧ ∀ j, j < P.2.2.length → m (q + 2) j = P.2.2.getD j 0
def FrP (q : Nat) (mi m : Mem) : Prop := (∀ a, a ≠ q → a ≠ q + 2 → m a = mi a) ∧ m q 1 = mi q 1 ∧ m q 5 = mi q 5
theorem FrP.rf (q : Nat) (mi : Mem) : FrP q mi mi := ⟨fun _ _ _ => rfl, rfl, rfl⟩
theorem FrP.tr {q : Nat} {a b c : Mem} (h : FrP q a b) (k : FrP q b c) : FrP q a c := ⟨fun i h1 h2 => (k.1 i h1 h2).trans (h.1 i h1 h2), k.2.1.trans h.2.1, k.2.2.trans h.2.2⟩
theorem FrP.up {q k : Nat} {a b : Mem} {v : Int32} (h : FrP q a b) (h1 : k ≠ 1) (h5 : k ≠ 5) : FrP q a (m_up b q k v) := ⟨fun i g1 g2 => by rw [m_up_ne g1]; exact h.1 i g1 g2, by rw [m_up_of (Ne.symm h1)]; exact h.2.1, by rw [m_up_of (Ne.symm h5)]; exact h.2.2⟩
theorem FrP.up2 {q k : Nat} {a b : Mem} {v : Int32} (h : FrP q a b) : FrP q a (m_up b (q + 2) k v) := ⟨fun i g1 g2 => by rw [m_up_ne g2]; exact h.1 i g1 g2, by rw [m_up_ne (by omega)]; exact h.2.1, by rw [m_up_ne (by omega)]; exact h.2.2⟩
theorem TpS.u2 {m : Mem} {q x y z v : Nat} {T : (Nat × Nat × Nat) × List Int32} (h : TpS m q ((x, y, z), T)) : TpS (m_up m q 2 (nI v)) q ((v, y, z), T) := by
  obtain ⟨h1, h2, h3, h4, h5, h6, h7, h8⟩ := h
  exact ⟨m_up_at _ _ _ _, by rw [m_up_of (by decide)]; exact h2, by rw [m_up_of (by decide)]; exact h3, by rw [m_up_of (by decide)]; exact h4, by rw [m_up_of (by decide)]; exact h5, by rw [m_up_of (by decide)]; exact h6, by rw [m_up_of (by decide)]; exact h7, fun j hj => by rw [m_up_ne (by omega)]; exact h8 j hj⟩
theorem TpS.u3 {m : Mem} {q x y z v : Nat} {T : (Nat × Nat × Nat) × List Int32} (h : TpS m q ((x, y, z), T)) : TpS (m_up m q 3 (nI v)) q ((x, v, z), T) := by
  obtain ⟨h1, h2, h3, h4, h5, h6, h7, h8⟩ := h
  exact ⟨by rw [m_up_of (by decide)]; exact h1, m_up_at _ _ _ _, by rw [m_up_of (by decide)]; exact h3, by rw [m_up_of (by decide)]; exact h4, by rw [m_up_of (by decide)]; exact h5, by rw [m_up_of (by decide)]; exact h6, by rw [m_up_of (by decide)]; exact h7, fun j hj => by rw [m_up_ne (by omega)]; exact h8 j hj⟩
theorem TpS.u4 {m : Mem} {q x y z v : Nat} {T : (Nat × Nat × Nat) × List Int32} (h : TpS m q ((x, y, z), T)) : TpS (m_up m q 4 (nI v)) q ((x, y, v), T) := by
  obtain ⟨h1, h2, h3, h4, h5, h6, h7, h8⟩ := h
  exact ⟨by rw [m_up_of (by decide)]; exact h1, by rw [m_up_of (by decide)]; exact h2, m_up_at _ _ _ _, by rw [m_up_of (by decide)]; exact h4, by rw [m_up_of (by decide)]; exact h5, by rw [m_up_of (by decide)]; exact h6, by rw [m_up_of (by decide)]; exact h7, fun j hj => by rw [m_up_ne (by omega)]; exact h8 j hj⟩
theorem TpS.u6 {m : Mem} {q v : Nat} {P : Ps} (h : TpS m q P) : TpS (m_up m q 6 (nI v)) q (P.1, (v, P.2.1.2), P.2.2) := by
  obtain ⟨h1, h2, h3, h4, h5, h6, h7, h8⟩ := h
  exact ⟨by rw [m_up_of (by decide)]; exact h1, by rw [m_up_of (by decide)]; exact h2, by rw [m_up_of (by decide)]; exact h3, m_up_at _ _ _ _, by rw [m_up_of (by decide)]; exact h5, by rw [m_up_of (by decide)]; exact h6, by rw [m_up_of (by decide)]; exact h7, fun j hj => by rw [m_up_ne (by omega)]; exact h8 j hj⟩
theorem TpS.u7 {m : Mem} {q v : Nat} {P : Ps} (h : TpS m q P) : TpS (m_up m q 7 (nI v)) q (P.1, (P.2.1.1, v, P.2.1.2.2), P.2.2) := by
  obtain ⟨h1, h2, h3, h4, h5, h6, h7, h8⟩ := h
  exact ⟨by rw [m_up_of (by decide)]; exact h1, by rw [m_up_of (by decide)]; exact h2, by rw [m_up_of (by decide)]; exact h3, by rw [m_up_of (by decide)]; exact h4, m_up_at _ _ _ _, by rw [m_up_of (by decide)]; exact h6, by rw [m_up_of (by decide)]; exact h7, fun j hj => by rw [m_up_ne (by omega)]; exact h8 j hj⟩
theorem TpS.u8 {m : Mem} {q v : Nat} {P : Ps} (h : TpS m q P) : TpS (m_up m q 8 (nI v)) q (P.1, (P.2.1.1, P.2.1.2.1, v), P.2.2) := by
  obtain ⟨h1, h2, h3, h4, h5, h6, h7, h8⟩ := h
  exact ⟨by rw [m_up_of (by decide)]; exact h1, by rw [m_up_of (by decide)]; exact h2, by rw [m_up_of (by decide)]; exact h3, by rw [m_up_of (by decide)]; exact h4, by rw [m_up_of (by decide)]; exact h5, m_up_at _ _ _ _, by rw [m_up_of (by decide)]; exact h7, fun j hj => by rw [m_up_ne (by omega)]; exact h8 j hj⟩
/-- the bytes and their number -/
def TpB (mi : Mem) (q : Nat) (b : Nat → Int32) (len : Nat) : Prop := mi (q + 1) = b ∧ mi q 1 = nI len
theorem TpB.fr {mi m : Mem} {q len : Nat} {b : Nat → Int32} (h : TpB mi q b len) (k : FrP q mi m) : TpB m q b len := ⟨by rw [k.1 (q + 1) (by omega) (by omega)]; exact h.1, by rw [k.2.1]; exact h.2⟩
def PP (S : Sg) (q : Nat) (mi : Mem) (r : Option Value) (P : Ps) : Pt3 := fun r' S' m => r' = r ∧ S' = S ∧ TpS m q P ∧ FrP q mi m
theorem dX3_sortAt_0 : decode fX3_sortAt.2.1 0 = .ok (.iload_n 1, 1) := by decide +kernel
theorem dX3_sortAt_1 : decode fX3_sortAt.2.1 1 = .ok (.aload_n 0, 1) := by decide +kernel
theorem dX3_sortAt_2 : decode fX3_sortAt.2.1 2 = .ok (.getfield 18, 3) := by decide +kernel
theorem dX3_sortAt_5 : decode fX3_sortAt.2.1 5 = .ok (.if_icmp .lt 5, 3) := by decide +kernel
theorem dX3_sortAt_8 : decode fX3_sortAt.2.1 8 = .ok (.iconst 0, 1) := by decide +kernel
theorem dX3_sortAt_9 : decode fX3_sortAt.2.1 9 = .ok (.ireturn, 1) := by decide +kernel
theorem dX3_sortAt_10 : decode fX3_sortAt.2.1 10 = .ok (.aload_n 0, 1) := by decide +kernel
theorem dX3_sortAt_11 : decode fX3_sortAt.2.1 11 = .ok (.getfield 9, 3) := by decide +kernel
theorem dX3_sortAt_14 : decode fX3_sortAt.2.1 14 = .ok (.iload_n 1, 1) := by decide +kernel
theorem dX3_sortAt_15 : decode fX3_sortAt.2.1 15 = .ok (.iaload, 1) := by decide +kernel
theorem dX3_sortAt_16 : decode fX3_sortAt.2.1 16 = .ok (.istore_n 2, 1) := by decide +kernel
theorem dX3_sortAt_17 : decode fX3_sortAt.2.1 17 = .ok (.iload_n 2, 1) := by decide +kernel
theorem dX3_sortAt_18 : decode fX3_sortAt.2.1 18 = .ok (.bipush 97, 2) := by decide +kernel
theorem dX3_sortAt_20 : decode fX3_sortAt.2.1 20 = .ok (.if_icmp .lt 11, 3) := by decide +kernel
theorem dX3_sortAt_23 : decode fX3_sortAt.2.1 23 = .ok (.iload_n 2, 1) := by decide +kernel
theorem dX3_sortAt_24 : decode fX3_sortAt.2.1 24 = .ok (.bipush 122, 2) := by decide +kernel
theorem dX3_sortAt_26 : decode fX3_sortAt.2.1 26 = .ok (.if_icmp .gt 5, 3) := by decide +kernel
theorem dX3_sortAt_29 : decode fX3_sortAt.2.1 29 = .ok (.iconst 1, 1) := by decide +kernel
theorem dX3_sortAt_30 : decode fX3_sortAt.2.1 30 = .ok (.ireturn, 1) := by decide +kernel
theorem dX3_sortAt_31 : decode fX3_sortAt.2.1 31 = .ok (.iload_n 2, 1) := by decide +kernel
theorem dX3_sortAt_32 : decode fX3_sortAt.2.1 32 = .ok (.bipush 48, 2) := by decide +kernel
theorem dX3_sortAt_34 : decode fX3_sortAt.2.1 34 = .ok (.if_icmp .lt 13, 3) := by decide +kernel
theorem dX3_sortAt_37 : decode fX3_sortAt.2.1 37 = .ok (.iload_n 2, 1) := by decide +kernel
theorem dX3_sortAt_38 : decode fX3_sortAt.2.1 38 = .ok (.bipush 57, 2) := by decide +kernel
theorem dX3_sortAt_40 : decode fX3_sortAt.2.1 40 = .ok (.if_icmp .gt 7, 3) := by decide +kernel
theorem dX3_sortAt_43 : decode fX3_sortAt.2.1 43 = .ok (.iconst 2, 1) := by decide +kernel
theorem dX3_sortAt_44 : decode fX3_sortAt.2.1 44 = .ok (.goto 4, 3) := by decide +kernel
theorem dX3_sortAt_47 : decode fX3_sortAt.2.1 47 = .ok (.iconst 3, 1) := by decide +kernel
theorem dX3_sortAt_48 : decode fX3_sortAt.2.1 48 = .ok (.ireturn, 1) := by decide +kernel
set_option maxRecDepth 100000 in
set_option maxHeartbeats 4000000 in
theorem ok_X3_sortAt {X : Xb} {S : Sg} {mi : Mem} {q len p : Nat} {b : Nat → Int32} (hT : TpA S q) (hB : TpB mi q b len) (hl : len ≤ 96) (hp : p < 2 ^ 31) : OkI 0 fX3_sortAt X [rf X q, .int (nI p)] S mi (nI (srtN b len p)) mi := by
  refine Ok.go [some (rf X q), some (.int (nI p)), none] (by decide) (by simp [Value.category]) (Nat.le_of_ble_eq_true rfl) rfl ?_
  obtain ⟨k_q, ⟨r_q_bytes, k_q_bytes⟩, ⟨r_q_steps, k_q_steps⟩⟩ := id hT
  obtain ⟨hb, hln⟩ := hB
  have eb : mi (q + 1) p = b p := by rw [hb]
  refine mw_iload_n dX3_sortAt_0 rfl ?_
  refine mw_aload_n dX3_sortAt_1 rfl ?_
  refine mw_geti dX3_sortAt_2 fl_X3_18 rfl (by assumption) ?_
  rw [hln]
  refine mw_icmp_lt (tgt := 10) dX3_sortAt_5 (by decide) (fun h5 => ?_) (fun h5 => ?_)
  · skip
    have hlt : p < len := (nI_ltI hp (by omega)).mp h5
    refine mw_aload_n dX3_sortAt_10 rfl ?_
    refine mw_getr dX3_sortAt_11 fl_X3_9 rfl (by assumption) (by assumption) ?_
    refine mw_iload_n dX3_sortAt_14 rfl ?_
    refine mw_ialdK (k := p) dX3_sortAt_15 (by assumption) (rfl) (by omega) (by decide) ?_
    rw [eb]
    refine mw_istN 2 dX3_sortAt_16 rfl (by decide) ?_
    refine mw_iload_n dX3_sortAt_17 rfl ?_
    refine mw_bipush (v := 97) dX3_sortAt_18 (by decide) ?_
    refine mw_icmp_lt (tgt := 31) dX3_sortAt_20 (by decide) (fun h20 => ?_) (fun h20 => ?_)
    · skip
      have n1 : ¬ (97 ≤ b p ∧ b p ≤ 122) := (by first | exact fun g => absurd g.1 (Int32.not_le.mpr h20) | exact fun g => absurd g.2 (Int32.not_le.mpr h26))
      refine mw_iload_n dX3_sortAt_31 rfl ?_
      refine mw_bipush (v := 48) dX3_sortAt_32 (by decide) ?_
      refine mw_icmp_lt (tgt := 47) dX3_sortAt_34 (by decide) (fun h34 => ?_) (fun h34 => ?_)
      · skip
        refine mw_iconst (v := 3) dX3_sortAt_47 (by decide) ?_
        exact mw_iret dX3_sortAt_48 rfl (by decide) (by decide) (⟨by first | (rw [srtN, if_pos hlt, if_neg n1, if_pos (And.intro (Int32.not_lt.mp h34) (Int32.not_lt.mp h40))]; rfl) | (rw [srtN, if_pos hlt, if_neg n1, if_neg (fun g => absurd g.2 (Int32.not_le.mpr h40))]; rfl) | (rw [srtN, if_pos hlt, if_neg n1, if_neg (fun g => absurd g.1 (Int32.not_le.mpr h34))]; rfl), rfl, rfl⟩)
      · skip
        refine mw_iload_n dX3_sortAt_37 rfl ?_
        refine mw_bipush (v := 57) dX3_sortAt_38 (by decide) ?_
        refine mw_icmp_gt (tgt := 47) dX3_sortAt_40 (by decide) (fun h40 => ?_) (fun h40 => ?_)
        · skip
          refine mw_iconst (v := 3) dX3_sortAt_47 (by decide) ?_
          exact mw_iret dX3_sortAt_48 rfl (by decide) (by decide) (⟨by first | (rw [srtN, if_pos hlt, if_neg n1, if_pos (And.intro (Int32.not_lt.mp h34) (Int32.not_lt.mp h40))]; rfl) | (rw [srtN, if_pos hlt, if_neg n1, if_neg (fun g => absurd g.2 (Int32.not_le.mpr h40))]; rfl) | (rw [srtN, if_pos hlt, if_neg n1, if_neg (fun g => absurd g.1 (Int32.not_le.mpr h34))]; rfl), rfl, rfl⟩)
        · skip
          refine mw_iconst (v := 2) dX3_sortAt_43 (by decide) ?_
          refine mw_goto (tgt := 48) dX3_sortAt_44 (by decide) ?_
          exact mw_iret dX3_sortAt_48 rfl (by decide) (by decide) (⟨by first | (rw [srtN, if_pos hlt, if_neg n1, if_pos (And.intro (Int32.not_lt.mp h34) (Int32.not_lt.mp h40))]; rfl) | (rw [srtN, if_pos hlt, if_neg n1, if_neg (fun g => absurd g.2 (Int32.not_le.mpr h40))]; rfl) | (rw [srtN, if_pos hlt, if_neg n1, if_neg (fun g => absurd g.1 (Int32.not_le.mpr h34))]; rfl), rfl, rfl⟩)
    · skip
      refine mw_iload_n dX3_sortAt_23 rfl ?_
      refine mw_bipush (v := 122) dX3_sortAt_24 (by decide) ?_
      refine mw_icmp_gt (tgt := 31) dX3_sortAt_26 (by decide) (fun h26 => ?_) (fun h26 => ?_)
      · skip
        have n1 : ¬ (97 ≤ b p ∧ b p ≤ 122) := (by first | exact fun g => absurd g.1 (Int32.not_le.mpr h20) | exact fun g => absurd g.2 (Int32.not_le.mpr h26))
        refine mw_iload_n dX3_sortAt_31 rfl ?_
        refine mw_bipush (v := 48) dX3_sortAt_32 (by decide) ?_
        refine mw_icmp_lt (tgt := 47) dX3_sortAt_34 (by decide) (fun h34 => ?_) (fun h34 => ?_)
        · skip
          refine mw_iconst (v := 3) dX3_sortAt_47 (by decide) ?_
          exact mw_iret dX3_sortAt_48 rfl (by decide) (by decide) (⟨by first | (rw [srtN, if_pos hlt, if_neg n1, if_pos (And.intro (Int32.not_lt.mp h34) (Int32.not_lt.mp h40))]; rfl) | (rw [srtN, if_pos hlt, if_neg n1, if_neg (fun g => absurd g.2 (Int32.not_le.mpr h40))]; rfl) | (rw [srtN, if_pos hlt, if_neg n1, if_neg (fun g => absurd g.1 (Int32.not_le.mpr h34))]; rfl), rfl, rfl⟩)
        · skip
          refine mw_iload_n dX3_sortAt_37 rfl ?_
          refine mw_bipush (v := 57) dX3_sortAt_38 (by decide) ?_
          refine mw_icmp_gt (tgt := 47) dX3_sortAt_40 (by decide) (fun h40 => ?_) (fun h40 => ?_)
          · skip
            refine mw_iconst (v := 3) dX3_sortAt_47 (by decide) ?_
            exact mw_iret dX3_sortAt_48 rfl (by decide) (by decide) (⟨by first | (rw [srtN, if_pos hlt, if_neg n1, if_pos (And.intro (Int32.not_lt.mp h34) (Int32.not_lt.mp h40))]; rfl) | (rw [srtN, if_pos hlt, if_neg n1, if_neg (fun g => absurd g.2 (Int32.not_le.mpr h40))]; rfl) | (rw [srtN, if_pos hlt, if_neg n1, if_neg (fun g => absurd g.1 (Int32.not_le.mpr h34))]; rfl), rfl, rfl⟩)
          · skip
            refine mw_iconst (v := 2) dX3_sortAt_43 (by decide) ?_
            refine mw_goto (tgt := 48) dX3_sortAt_44 (by decide) ?_
            exact mw_iret dX3_sortAt_48 rfl (by decide) (by decide) (⟨by first | (rw [srtN, if_pos hlt, if_neg n1, if_pos (And.intro (Int32.not_lt.mp h34) (Int32.not_lt.mp h40))]; rfl) | (rw [srtN, if_pos hlt, if_neg n1, if_neg (fun g => absurd g.2 (Int32.not_le.mpr h40))]; rfl) | (rw [srtN, if_pos hlt, if_neg n1, if_neg (fun g => absurd g.1 (Int32.not_le.mpr h34))]; rfl), rfl, rfl⟩)
      · skip
        refine mw_iconst (v := 1) dX3_sortAt_29 (by decide) ?_
        exact mw_iret dX3_sortAt_30 rfl (by decide) (by decide) (⟨by rw [srtN, if_pos hlt, if_pos (And.intro (Int32.not_lt.mp h20) (Int32.not_lt.mp h26))]; rfl, rfl, rfl⟩)
  · skip
    refine mw_iconst (v := 0) dX3_sortAt_8 (by decide) ?_
    exact mw_iret dX3_sortAt_9 rfl (by decide) (by decide) (⟨by rw [srtN, if_neg (fun g => h5 (nI_lt g (by omega)))]; rfl, rfl, rfl⟩)
def sgn (b : Nat → Int32) (len : Nat) (P : Ps) : Int32 := if P.1.2.2 = 3 ∧ P.1.1 < len then b P.1.1 else -1
theorem dX3_signHere_0 : decode fX3_signHere.2.1 0 = .ok (.aload_n 0, 1) := by decide +kernel
theorem dX3_signHere_1 : decode fX3_signHere.2.1 1 = .ok (.getfield 25, 3) := by decide +kernel
theorem dX3_signHere_4 : decode fX3_signHere.2.1 4 = .ok (.iconst 3, 1) := by decide +kernel
theorem dX3_signHere_5 : decode fX3_signHere.2.1 5 = .ok (.if_icmp .ne 26, 3) := by decide +kernel
theorem dX3_signHere_8 : decode fX3_signHere.2.1 8 = .ok (.aload_n 0, 1) := by decide +kernel
theorem dX3_signHere_9 : decode fX3_signHere.2.1 9 = .ok (.getfield 59, 3) := by decide +kernel
theorem dX3_signHere_12 : decode fX3_signHere.2.1 12 = .ok (.aload_n 0, 1) := by decide +kernel
theorem dX3_signHere_13 : decode fX3_signHere.2.1 13 = .ok (.getfield 18, 3) := by decide +kernel
theorem dX3_signHere_16 : decode fX3_signHere.2.1 16 = .ok (.if_icmp .ge 15, 3) := by decide +kernel
theorem dX3_signHere_19 : decode fX3_signHere.2.1 19 = .ok (.aload_n 0, 1) := by decide +kernel
theorem dX3_signHere_20 : decode fX3_signHere.2.1 20 = .ok (.getfield 9, 3) := by decide +kernel
theorem dX3_signHere_23 : decode fX3_signHere.2.1 23 = .ok (.aload_n 0, 1) := by decide +kernel
theorem dX3_signHere_24 : decode fX3_signHere.2.1 24 = .ok (.getfield 59, 3) := by decide +kernel
theorem dX3_signHere_27 : decode fX3_signHere.2.1 27 = .ok (.iaload, 1) := by decide +kernel
theorem dX3_signHere_28 : decode fX3_signHere.2.1 28 = .ok (.goto 4, 3) := by decide +kernel
theorem dX3_signHere_31 : decode fX3_signHere.2.1 31 = .ok (.iconst (-1), 1) := by decide +kernel
theorem dX3_signHere_32 : decode fX3_signHere.2.1 32 = .ok (.ireturn, 1) := by decide +kernel
set_option maxRecDepth 100000 in
set_option maxHeartbeats 4000000 in
theorem ok_X3_signHere {X : Xb} {S : Sg} {mi : Mem} {q len : Nat} {b : Nat → Int32} {P : Ps} (hT : TpA S q) (hB : TpB mi q b len) (hS : TpS mi q P) (hP : Pb len P) : OkI 0 fX3_signHere X [rf X q] S mi (sgn b len P) mi := by
  refine Ok.go [some (rf X q)] (by decide) (by simp [Value.category]) (Nat.le_of_ble_eq_true rfl) rfl ?_
  obtain ⟨k_q, ⟨r_q_bytes, k_q_bytes⟩, ⟨r_q_steps, k_q_steps⟩⟩ := id hT
  obtain ⟨hb, hln⟩ := hB
  obtain ⟨p1, p2, p3, p4, p5, p6, p7⟩ := hP
  have eb : mi (q + 1) P.1.1 = b P.1.1 := by rw [hb]
  have i3 : nI P.1.2.2 = 3 ↔ P.1.2.2 = 3 := nI_eq (b := 3) (by omega) (by decide)
  refine mw_aload_n dX3_signHere_0 rfl ?_
  refine mw_geti dX3_signHere_1 fl_X3_25 rfl (by assumption) ?_
  rw [hS.2.2.1]
  refine mw_iconst (v := 3) dX3_signHere_4 (by decide) ?_
  refine mw_icmp_ne (tgt := 31) dX3_signHere_5 (by decide) (fun h5 => ?_) (fun h5 => ?_)
  · skip
    refine mw_iconst (v := (-1)) dX3_signHere_31 (by decide) ?_
    exact mw_iret dX3_signHere_32 rfl (by decide) (by decide) (⟨by first | (have g := hlt; rw [sgn, if_pos (And.intro (i3.mp h5) g)]; done) | (have g := h16; rw [sgn, if_neg (fun k => absurd g (nI_ge k.2 (by omega)))]; done) | (rw [sgn, if_neg (fun k => h5 (i3.mpr k.1))]; done), rfl, rfl⟩)
  · skip
    refine mw_aload_n dX3_signHere_8 rfl ?_
    refine mw_geti dX3_signHere_9 fl_X3_59 rfl (by assumption) ?_
    rw [hS.1]
    refine mw_aload_n dX3_signHere_12 rfl ?_
    refine mw_geti dX3_signHere_13 fl_X3_18 rfl (by assumption) ?_
    rw [hln]
    refine mw_icmp_ge (tgt := 31) dX3_signHere_16 (by decide) (fun h16 => ?_) (fun h16 => ?_)
    · skip
      refine mw_iconst (v := (-1)) dX3_signHere_31 (by decide) ?_
      exact mw_iret dX3_signHere_32 rfl (by decide) (by decide) (⟨by first | (have g := hlt; rw [sgn, if_pos (And.intro (i3.mp h5) g)]; done) | (have g := h16; rw [sgn, if_neg (fun k => absurd g (nI_ge k.2 (by omega)))]; done) | (rw [sgn, if_neg (fun k => h5 (i3.mpr k.1))]; done), rfl, rfl⟩)
    · skip
      have hlt : P.1.1 < len := (nI_ltI (by omega) (by omega)).mp (Int32.not_le.mp h16)
      refine mw_aload_n dX3_signHere_19 rfl ?_
      refine mw_getr dX3_signHere_20 fl_X3_9 rfl (by assumption) (by assumption) ?_
      refine mw_aload_n dX3_signHere_23 rfl ?_
      refine mw_geti dX3_signHere_24 fl_X3_59 rfl (by assumption) ?_
      rw [hS.1]
      refine mw_ialdK (k := P.1.1) dX3_signHere_27 (by assumption) (rfl) (by omega) (by decide) ?_
      rw [eb]
      refine mw_goto (tgt := 32) dX3_signHere_28 (by decide) ?_
      exact mw_iret dX3_signHere_32 rfl (by decide) (by decide) (⟨by first | (have g := hlt; rw [sgn, if_pos (And.intro (i3.mp h5) g)]; done) | (have g := h16; rw [sgn, if_neg (fun k => absurd g (nI_ge k.2 (by omega)))]; done) | (rw [sgn, if_neg (fun k => h5 (i3.mpr k.1))]; done), rfl, rfl⟩)
def rnkI (s : Int32) : Int32 := if s = 38 then 1 else if s = 42 then 4 else if s = 43 then 3 else if s = 45 then 3 else if s = 47 then 4 else if s = 60 then 2 else if s = 61 then 2 else if s = 62 then 2 else if s = 124 then 0 else -1
theorem dX3_rankOf_0 : decode fX3_rankOf.2.1 0 = .ok (.iload_n 0, 1) := by decide +kernel
theorem dX3_rankOf_1 : decode fX3_rankOf.2.1 1 = .ok (.lookupswitch 93 #[(38, 85), (42, 91), (43, 89), (45, 89), (47, 91), (60, 87), (61, 87), (62, 87), (124, 83)], 83) := by decide +kernel
theorem dX3_rankOf_84 : decode fX3_rankOf.2.1 84 = .ok (.iconst 0, 1) := by decide +kernel
theorem dX3_rankOf_85 : decode fX3_rankOf.2.1 85 = .ok (.ireturn, 1) := by decide +kernel
theorem dX3_rankOf_86 : decode fX3_rankOf.2.1 86 = .ok (.iconst 1, 1) := by decide +kernel
theorem dX3_rankOf_87 : decode fX3_rankOf.2.1 87 = .ok (.ireturn, 1) := by decide +kernel
theorem dX3_rankOf_88 : decode fX3_rankOf.2.1 88 = .ok (.iconst 2, 1) := by decide +kernel
theorem dX3_rankOf_89 : decode fX3_rankOf.2.1 89 = .ok (.ireturn, 1) := by decide +kernel
theorem dX3_rankOf_90 : decode fX3_rankOf.2.1 90 = .ok (.iconst 3, 1) := by decide +kernel
theorem dX3_rankOf_91 : decode fX3_rankOf.2.1 91 = .ok (.ireturn, 1) := by decide +kernel
theorem dX3_rankOf_92 : decode fX3_rankOf.2.1 92 = .ok (.iconst 4, 1) := by decide +kernel
theorem dX3_rankOf_93 : decode fX3_rankOf.2.1 93 = .ok (.ireturn, 1) := by decide +kernel
theorem dX3_rankOf_94 : decode fX3_rankOf.2.1 94 = .ok (.iconst (-1), 1) := by decide +kernel
theorem dX3_rankOf_95 : decode fX3_rankOf.2.1 95 = .ok (.ireturn, 1) := by decide +kernel
set_option maxRecDepth 100000 in
set_option maxHeartbeats 4000000 in
theorem ok_X3_rankOf {X : Xb} {S : Sg} {mi : Mem} {s : Int32} : OkI 0 fX3_rankOf X [.int s] S mi (rnkI s) mi := by
  refine Ok.go [some (.int s)] (by decide) (by simp [Value.category]) (Nat.le_of_ble_eq_true rfl) rfl ?_
  refine mw_iload_n dX3_rankOf_0 rfl ?_
  refine mw_ls1 dX3_rankOf_1 (by decide) 38 86 (by decide) (fun h1_38 => ?_) (fun h1_38 => ?_)
  · skip
    refine mw_iconst (v := 1) dX3_rankOf_86 (by decide) ?_
    exact mw_iret dX3_rankOf_87 rfl (by decide) (by decide) (⟨by simp only [rnkI]; simp_all, rfl, rfl⟩)
  refine mw_ls1 dX3_rankOf_1 (by decide) 42 92 (by decide) (fun h1_42 => ?_) (fun h1_42 => ?_)
  · skip
    refine mw_iconst (v := 4) dX3_rankOf_92 (by decide) ?_
    exact mw_iret dX3_rankOf_93 rfl (by decide) (by decide) (⟨by simp only [rnkI]; simp_all, rfl, rfl⟩)
  refine mw_ls1 dX3_rankOf_1 (by decide) 43 90 (by decide) (fun h1_43 => ?_) (fun h1_43 => ?_)
  · skip
    refine mw_iconst (v := 3) dX3_rankOf_90 (by decide) ?_
    exact mw_iret dX3_rankOf_91 rfl (by decide) (by decide) (⟨by simp only [rnkI]; simp_all, rfl, rfl⟩)
  refine mw_ls1 dX3_rankOf_1 (by decide) 45 90 (by decide) (fun h1_45 => ?_) (fun h1_45 => ?_)
  · skip
    refine mw_iconst (v := 3) dX3_rankOf_90 (by decide) ?_
    exact mw_iret dX3_rankOf_91 rfl (by decide) (by decide) (⟨by simp only [rnkI]; simp_all, rfl, rfl⟩)
  refine mw_ls1 dX3_rankOf_1 (by decide) 47 92 (by decide) (fun h1_47 => ?_) (fun h1_47 => ?_)
  · skip
    refine mw_iconst (v := 4) dX3_rankOf_92 (by decide) ?_
    exact mw_iret dX3_rankOf_93 rfl (by decide) (by decide) (⟨by simp only [rnkI]; simp_all, rfl, rfl⟩)
  refine mw_ls1 dX3_rankOf_1 (by decide) 60 88 (by decide) (fun h1_60 => ?_) (fun h1_60 => ?_)
  · skip
    refine mw_iconst (v := 2) dX3_rankOf_88 (by decide) ?_
    exact mw_iret dX3_rankOf_89 rfl (by decide) (by decide) (⟨by simp only [rnkI]; simp_all, rfl, rfl⟩)
  refine mw_ls1 dX3_rankOf_1 (by decide) 61 88 (by decide) (fun h1_61 => ?_) (fun h1_61 => ?_)
  · skip
    refine mw_iconst (v := 2) dX3_rankOf_88 (by decide) ?_
    exact mw_iret dX3_rankOf_89 rfl (by decide) (by decide) (⟨by simp only [rnkI]; simp_all, rfl, rfl⟩)
  refine mw_ls1 dX3_rankOf_1 (by decide) 62 88 (by decide) (fun h1_62 => ?_) (fun h1_62 => ?_)
  · skip
    refine mw_iconst (v := 2) dX3_rankOf_88 (by decide) ?_
    exact mw_iret dX3_rankOf_89 rfl (by decide) (by decide) (⟨by simp only [rnkI]; simp_all, rfl, rfl⟩)
  refine mw_ls1 dX3_rankOf_1 (by decide) 124 84 (by decide) (fun h1_124 => ?_) (fun h1_124 => ?_)
  · skip
    refine mw_iconst (v := 0) dX3_rankOf_84 (by decide) ?_
    exact mw_iret dX3_rankOf_85 rfl (by decide) (by decide) (⟨by simp only [rnkI]; simp_all, rfl, rfl⟩)
  refine mw_ls0 dX3_rankOf_1 (by decide) 94 (by decide) (by have e0 := ne_toI (n := 38) (by decide) h1_38; have e1 := ne_toI (n := 42) (by decide) h1_42; have e2 := ne_toI (n := 43) (by decide) h1_43; have e3 := ne_toI (n := 45) (by decide) h1_45; have e4 := ne_toI (n := 47) (by decide) h1_47; have e5 := ne_toI (n := 60) (by decide) h1_60; have e6 := ne_toI (n := 61) (by decide) h1_61; have e7 := ne_toI (n := 62) (by decide) h1_62; have e8 := ne_toI (n := 124) (by decide) h1_124; simp; omega) ?_
  refine mw_iconst (v := (-1)) dX3_rankOf_94 (by decide) ?_
  exact mw_iret dX3_rankOf_95 rfl (by decide) (by decide) (⟨by simp only [rnkI]; simp_all, rfl, rfl⟩)
def adC (c : List Int32) (v : Int32) : List Int32 := if c.length < 96 then c ++ [v] else c
def adP (P : Ps) (v : Int32) : Ps := (P.1, P.2.1, adC P.2.2 v)
theorem pb_adP {len : Nat} {P : Ps} {v : Int32} (h : Pb len P) : Pb len (adP P v) := by
  obtain ⟨h1, h2, h3, h4, h5, h6, h7⟩ := h
  refine ⟨h1, h2, h3, h4, h5, ?_, h7⟩
  show (adC P.2.2 v).length ≤ 96
  unfold adC
  split
  · rw [List.length_append]; simp only [List.length_singleton]; omega
  · exact h6
theorem dX3_addStep_0 : decode fX3_addStep.2.1 0 = .ok (.aload_n 0, 1) := by decide +kernel
theorem dX3_addStep_1 : decode fX3_addStep.2.1 1 = .ok (.getfield 37, 3) := by decide +kernel
theorem dX3_addStep_4 : decode fX3_addStep.2.1 4 = .ok (.bipush 96, 2) := by decide +kernel
theorem dX3_addStep_6 : decode fX3_addStep.2.1 6 = .ok (.if_icmp .ge 23, 3) := by decide +kernel
theorem dX3_addStep_9 : decode fX3_addStep.2.1 9 = .ok (.aload_n 0, 1) := by decide +kernel
theorem dX3_addStep_10 : decode fX3_addStep.2.1 10 = .ok (.getfield 15, 3) := by decide +kernel
theorem dX3_addStep_13 : decode fX3_addStep.2.1 13 = .ok (.aload_n 0, 1) := by decide +kernel
theorem dX3_addStep_14 : decode fX3_addStep.2.1 14 = .ok (.getfield 37, 3) := by decide +kernel
theorem dX3_addStep_17 : decode fX3_addStep.2.1 17 = .ok (.iload_n 1, 1) := by decide +kernel
theorem dX3_addStep_18 : decode fX3_addStep.2.1 18 = .ok (.iastore, 1) := by decide +kernel
theorem dX3_addStep_19 : decode fX3_addStep.2.1 19 = .ok (.aload_n 0, 1) := by decide +kernel
theorem dX3_addStep_20 : decode fX3_addStep.2.1 20 = .ok (.dup, 1) := by decide +kernel
theorem dX3_addStep_21 : decode fX3_addStep.2.1 21 = .ok (.getfield 37, 3) := by decide +kernel
theorem dX3_addStep_24 : decode fX3_addStep.2.1 24 = .ok (.iconst 1, 1) := by decide +kernel
theorem dX3_addStep_25 : decode fX3_addStep.2.1 25 = .ok (.iadd, 1) := by decide +kernel
theorem dX3_addStep_26 : decode fX3_addStep.2.1 26 = .ok (.putfield 37, 3) := by decide +kernel
theorem dX3_addStep_29 : decode fX3_addStep.2.1 29 = .ok (.return_, 1) := by decide +kernel
set_option maxRecDepth 100000 in
set_option maxHeartbeats 4000000 in
theorem ok_X3_addStep {X : Xb} {S : Sg} {mi : Mem} {q len : Nat} {P : Ps} {v : Int32} (hT : TpA S q) (hS : TpS mi q P) (hP : Pb len P) : Ok 0 0 0 fX3_addStep X [rf X q, .int v] S mi (PP S q mi none (adP P v)) := by
  refine Ok.go [some (rf X q), some (.int v)] (by decide) (by simp [Value.category]) (Nat.le_of_ble_eq_true rfl) rfl ?_
  obtain ⟨k_q, ⟨r_q_bytes, k_q_bytes⟩, ⟨r_q_steps, k_q_steps⟩⟩ := id hT
  obtain ⟨p1, p2, p3, p4, p5, p6, p7⟩ := hP
  obtain ⟨s1, s2, s3, s4, s5, s6, s7, s8⟩ := id hS
  have n1 : q ≠ q + 2 := by omega
  refine mw_aload_n dX3_addStep_0 rfl ?_
  refine mw_geti dX3_addStep_1 fl_X3_37 rfl (by assumption) ?_
  rw [s7]
  refine mw_bipush (v := 96) dX3_addStep_4 (by decide) ?_
  refine mw_icmp_ge (tgt := 29) dX3_addStep_6 (by decide) (fun h6 => ?_) (fun h6 => ?_)
  · skip
    exact mw_vret dX3_addStep_29 rfl (by decide) (by decide) (by first | (have g : ¬ P.2.2.length < 96 := fun k => absurd h6 (nI_ge (b := 96) k (by decide)); exact ⟨rfl, rfl, by rw [adP, adC, if_neg g]; exact hS, FrP.rf _ _⟩) | (have g : P.2.2.length < 96 := (nI_ltI (b := 96) (by omega) (by decide)).mp (Int32.not_le.mp h6); exact ⟨rfl, rfl, by rw [adP, adC, if_pos g]; exact ⟨by rw [m_up_of (by decide), m_up_ne n1]; exact s1, by rw [m_up_of (by decide), m_up_ne n1]; exact s2, by rw [m_up_of (by decide), m_up_ne n1]; exact s3, by rw [m_up_of (by decide), m_up_ne n1]; exact s4, by rw [m_up_of (by decide), m_up_ne n1]; exact s5, by rw [m_up_of (by decide), m_up_ne n1]; exact s6, by rw [m_up_at, List.length_append]; rfl, fun j hj => by { rw [m_up_ne (by omega)]; by_cases c : j = P.2.2.length; · { subst c; rw [m_up_at]; simp }; · { rw [m_up_of c, s8 j (by rw [List.length_append] at hj; simp only [List.length_singleton] at hj; omega)]; rw [List.getD_eq_getElem?_getD, List.getD_eq_getElem?_getD, List.getElem?_append_left (by rw [List.length_append] at hj; simp only [List.length_singleton] at hj; omega)] } }⟩, ((FrP.rf _ _).up2).up (by decide) (by decide)⟩) | fail "leaf")
  · skip
    refine mw_aload_n dX3_addStep_9 rfl ?_
    refine mw_getr dX3_addStep_10 fl_X3_15 rfl (by assumption) (by assumption) ?_
    refine mw_aload_n dX3_addStep_13 rfl ?_
    refine mw_geti dX3_addStep_14 fl_X3_37 rfl (by assumption) ?_
    rw [s7]
    refine mw_iload_n dX3_addStep_17 rfl ?_
    refine mw_iastK (k := P.2.2.length) dX3_addStep_18 (by assumption) (rfl) ((nI_ltI (b := 96) (by omega) (by decide)).mp (Int32.not_le.mp h6)) (by decide) ?_
    refine mw_aload_n dX3_addStep_19 rfl ?_
    refine mw_dup dX3_addStep_20 rfl ?_
    refine mw_geti dX3_addStep_21 fl_X3_37 rfl (by assumption) ?_
    rw [m_up_ne n1, s7]
    refine mw_iconst (v := 1) dX3_addStep_24 (by decide) ?_
    refine mw_iadd dX3_addStep_25 ?_
    rw [nI_1]
    refine mw_puti dX3_addStep_26 fl_X3_37 ft_3_10 rfl (rfl) rfl (by assumption) ?_
    exact mw_vret dX3_addStep_29 rfl (by decide) (by decide) (by first | (have g : ¬ P.2.2.length < 96 := fun k => absurd h6 (nI_ge (b := 96) k (by decide)); exact ⟨rfl, rfl, by rw [adP, adC, if_neg g]; exact hS, FrP.rf _ _⟩) | (have g : P.2.2.length < 96 := (nI_ltI (b := 96) (by omega) (by decide)).mp (Int32.not_le.mp h6); exact ⟨rfl, rfl, by rw [adP, adC, if_pos g]; exact ⟨by rw [m_up_of (by decide), m_up_ne n1]; exact s1, by rw [m_up_of (by decide), m_up_ne n1]; exact s2, by rw [m_up_of (by decide), m_up_ne n1]; exact s3, by rw [m_up_of (by decide), m_up_ne n1]; exact s4, by rw [m_up_of (by decide), m_up_ne n1]; exact s5, by rw [m_up_of (by decide), m_up_ne n1]; exact s6, by rw [m_up_at, List.length_append]; rfl, fun j hj => by { rw [m_up_ne (by omega)]; by_cases c : j = P.2.2.length; · { subst c; rw [m_up_at]; simp }; · { rw [m_up_of c, s8 j (by rw [List.length_append] at hj; simp only [List.length_singleton] at hj; omega)]; rw [List.getD_eq_getElem?_getD, List.getD_eq_getElem?_getD, List.getElem?_append_left (by rw [List.length_append] at hj; simp only [List.length_singleton] at hj; omega)] } }⟩, ((FrP.rf _ _).up2).up (by decide) (by decide)⟩) | fail "leaf")
def numF (b : Nat → Int32) (bg : Nat) : Nat → Int32
  | 0 => 0
  | k + 1 => numF b bg k * 10 + b (bg + k) - 48
theorem dX3_numberHere_0 : decode fX3_numberHere.2.1 0 = .ok (.iconst 0, 1) := by decide +kernel
theorem dX3_numberHere_1 : decode fX3_numberHere.2.1 1 = .ok (.istore_n 1, 1) := by decide +kernel
theorem dX3_numberHere_2 : decode fX3_numberHere.2.1 2 = .ok (.aload_n 0, 1) := by decide +kernel
theorem dX3_numberHere_3 : decode fX3_numberHere.2.1 3 = .ok (.getfield 59, 3) := by decide +kernel
theorem dX3_numberHere_6 : decode fX3_numberHere.2.1 6 = .ok (.istore_n 2, 1) := by decide +kernel
theorem dX3_numberHere_7 : decode fX3_numberHere.2.1 7 = .ok (.iload_n 2, 1) := by decide +kernel
theorem dX3_numberHere_8 : decode fX3_numberHere.2.1 8 = .ok (.aload_n 0, 1) := by decide +kernel
theorem dX3_numberHere_9 : decode fX3_numberHere.2.1 9 = .ok (.getfield 22, 3) := by decide +kernel
theorem dX3_numberHere_12 : decode fX3_numberHere.2.1 12 = .ok (.if_icmp .ge 32, 3) := by decide +kernel
theorem dX3_numberHere_15 : decode fX3_numberHere.2.1 15 = .ok (.iload_n 2, 1) := by decide +kernel
theorem dX3_numberHere_16 : decode fX3_numberHere.2.1 16 = .ok (.aload_n 0, 1) := by decide +kernel
theorem dX3_numberHere_17 : decode fX3_numberHere.2.1 17 = .ok (.getfield 18, 3) := by decide +kernel
theorem dX3_numberHere_20 : decode fX3_numberHere.2.1 20 = .ok (.if_icmp .ge 24, 3) := by decide +kernel
theorem dX3_numberHere_23 : decode fX3_numberHere.2.1 23 = .ok (.iload_n 1, 1) := by decide +kernel
theorem dX3_numberHere_24 : decode fX3_numberHere.2.1 24 = .ok (.bipush 10, 2) := by decide +kernel
theorem dX3_numberHere_26 : decode fX3_numberHere.2.1 26 = .ok (.imul, 1) := by decide +kernel
theorem dX3_numberHere_27 : decode fX3_numberHere.2.1 27 = .ok (.aload_n 0, 1) := by decide +kernel
theorem dX3_numberHere_28 : decode fX3_numberHere.2.1 28 = .ok (.getfield 9, 3) := by decide +kernel
theorem dX3_numberHere_31 : decode fX3_numberHere.2.1 31 = .ok (.iload_n 2, 1) := by decide +kernel
theorem dX3_numberHere_32 : decode fX3_numberHere.2.1 32 = .ok (.iaload, 1) := by decide +kernel
theorem dX3_numberHere_33 : decode fX3_numberHere.2.1 33 = .ok (.iadd, 1) := by decide +kernel
theorem dX3_numberHere_34 : decode fX3_numberHere.2.1 34 = .ok (.bipush 48, 2) := by decide +kernel
theorem dX3_numberHere_36 : decode fX3_numberHere.2.1 36 = .ok (.isub, 1) := by decide +kernel
theorem dX3_numberHere_37 : decode fX3_numberHere.2.1 37 = .ok (.istore_n 1, 1) := by decide +kernel
theorem dX3_numberHere_38 : decode fX3_numberHere.2.1 38 = .ok (.iinc 2 1, 3) := by decide +kernel
theorem dX3_numberHere_41 : decode fX3_numberHere.2.1 41 = .ok (.goto (-34), 3) := by decide +kernel
theorem dX3_numberHere_44 : decode fX3_numberHere.2.1 44 = .ok (.iload_n 1, 1) := by decide +kernel
theorem dX3_numberHere_45 : decode fX3_numberHere.2.1 45 = .ok (.ireturn, 1) := by decide +kernel
set_option maxRecDepth 100000 in
set_option maxHeartbeats 4000000 in
theorem ok_X3_numberHere {X : Xb} {S : Sg} {mi : Mem} {q len : Nat} {b : Nat → Int32} {P : Ps} (hT : TpA S q) (hB : TpB mi q b len) (hS : TpS mi q P) (hP : Pb len P) : OkI 0 fX3_numberHere X [rf X q] S mi (numF b P.1.1 (P.1.2.1 - P.1.1)) mi := by
  refine Ok.go [some (rf X q), none, none] (by decide) (by simp [Value.category]) (Nat.le_of_ble_eq_true rfl) rfl ?_
  obtain ⟨k_q, ⟨r_q_bytes, k_q_bytes⟩, ⟨r_q_steps, k_q_steps⟩⟩ := id hT
  obtain ⟨hb, hln⟩ := hB
  obtain ⟨p1, p2, p3, p4, p5, p6, p7⟩ := hP
  have lp := mw_dn (P := fun k => MW X fX3_numberHere (rmOf 0 0 0) 0 0 7 [some (rf X q), some (.int (numF b P.1.1 k)), some (.int (nI (P.1.1 + k)))] [] S mi (mQ X 0 0 (pI (numF b P.1.1 (P.1.2.1 - P.1.1)) S mi))) (P.1.2.1 - P.1.1) (by
    refine mw_iload_n dX3_numberHere_7 rfl ?_
    refine mw_aload_n dX3_numberHere_8 rfl ?_
    refine mw_geti dX3_numberHere_9 fl_X3_22 rfl (by assumption) ?_
    rw [hS.2.1]
    refine mw_icmp_ge (tgt := 44) dX3_numberHere_12 (by decide) (fun h12 => ?_) (fun h12 => ?_)
    · skip
      refine mw_iload_n dX3_numberHere_44 rfl ?_
      exact mw_iret dX3_numberHere_45 rfl (by decide) (by decide) (⟨rfl, rfl, rfl⟩)
    · skip
      exact absurd (nI_le (show P.1.2.1 ≤ P.1.1 + (P.1.2.1 - P.1.1) by omega) (by omega)) h12) (fun k hk ih => by
    refine mw_iload_n dX3_numberHere_7 rfl ?_
    refine mw_aload_n dX3_numberHere_8 rfl ?_
    refine mw_geti dX3_numberHere_9 fl_X3_22 rfl (by assumption) ?_
    rw [hS.2.1]
    refine mw_icmp_ge (tgt := 44) dX3_numberHere_12 (by decide) (fun h12 => ?_) (fun h12 => ?_)
    · skip
      first
        | exact absurd h12 (nI_ge (by omega) (by omega))
        | exact absurd h20 (nI_ge (by omega) (by omega))
        | fail "stop"
    · skip
      refine mw_iload_n dX3_numberHere_15 rfl ?_
      refine mw_aload_n dX3_numberHere_16 rfl ?_
      refine mw_geti dX3_numberHere_17 fl_X3_18 rfl (by assumption) ?_
      rw [hln]
      refine mw_icmp_ge (tgt := 44) dX3_numberHere_20 (by decide) (fun h20 => ?_) (fun h20 => ?_)
      · skip
        first
          | exact absurd h12 (nI_ge (by omega) (by omega))
          | exact absurd h20 (nI_ge (by omega) (by omega))
          | fail "stop"
      · skip
        refine mw_iload_n dX3_numberHere_23 rfl ?_
        refine mw_bipush (v := 10) dX3_numberHere_24 (by decide) ?_
        refine mw_imul dX3_numberHere_26 ?_
        refine mw_aload_n dX3_numberHere_27 rfl ?_
        refine mw_getr dX3_numberHere_28 fl_X3_9 rfl (by assumption) (by assumption) ?_
        refine mw_iload_n dX3_numberHere_31 rfl ?_
        refine mw_ialdK (k := P.1.1 + k) dX3_numberHere_32 (by assumption) (rfl) (by omega) (by decide) ?_
        rw [hb]
        refine mw_iadd dX3_numberHere_33 ?_
        refine mw_bipush (v := 48) dX3_numberHere_34 (by decide) ?_
        refine mw_isub dX3_numberHere_36 ?_
        refine mw_istN 1 dX3_numberHere_37 rfl (by decide) ?_
        refine mw_iincK (k := P.1.1 + k) dX3_numberHere_38 rfl rfl (by decide) ?_
        refine mw_goto (tgt := 7) dX3_numberHere_41 (by decide) ?_
        exact MW.sub (by simp [lsub, numF]; rfl) ih)
  refine mw_iconst (v := 0) dX3_numberHere_0 (by decide) ?_
  refine mw_istN 1 dX3_numberHere_1 rfl (by decide) ?_
  refine mw_aload_n dX3_numberHere_2 rfl ?_
  refine mw_geti dX3_numberHere_3 fl_X3_59 rfl (by assumption) ?_
  rw [hS.1]
  refine mw_istN 2 dX3_numberHere_6 rfl (by decide) ?_
  exact MW.sub (by simp [lsub, numF]) lp
theorem c_127 : ∀ j, j < 128 → ((nI j).toUInt32 % 65536).toInt32 = nI j := by decide +kernel
def nmH (b : Nat → Int32) (len key : Nat) (P : Ps) : Int32 := if P.1.2.1 - P.1.1 = 1 ∧ P.1.1 < len then ixF (3 + key) (b P.1.1) (sN (3 + key)) 0 else -1
theorem dX3_nameHere_0 : decode fX3_nameHere.2.1 0 = .ok (.aload_n 0, 1) := by decide +kernel
theorem dX3_nameHere_1 : decode fX3_nameHere.2.1 1 = .ok (.getfield 22, 3) := by decide +kernel
theorem dX3_nameHere_4 : decode fX3_nameHere.2.1 4 = .ok (.aload_n 0, 1) := by decide +kernel
theorem dX3_nameHere_5 : decode fX3_nameHere.2.1 5 = .ok (.getfield 59, 3) := by decide +kernel
theorem dX3_nameHere_8 : decode fX3_nameHere.2.1 8 = .ok (.isub, 1) := by decide +kernel
theorem dX3_nameHere_9 : decode fX3_nameHere.2.1 9 = .ok (.iconst 1, 1) := by decide +kernel
theorem dX3_nameHere_10 : decode fX3_nameHere.2.1 10 = .ok (.if_icmp .ne 14, 3) := by decide +kernel
theorem dX3_nameHere_13 : decode fX3_nameHere.2.1 13 = .ok (.aload_n 0, 1) := by decide +kernel
theorem dX3_nameHere_14 : decode fX3_nameHere.2.1 14 = .ok (.getfield 59, 3) := by decide +kernel
theorem dX3_nameHere_17 : decode fX3_nameHere.2.1 17 = .ok (.aload_n 0, 1) := by decide +kernel
theorem dX3_nameHere_18 : decode fX3_nameHere.2.1 18 = .ok (.getfield 18, 3) := by decide +kernel
theorem dX3_nameHere_21 : decode fX3_nameHere.2.1 21 = .ok (.if_icmp .lt 5, 3) := by decide +kernel
theorem dX3_nameHere_24 : decode fX3_nameHere.2.1 24 = .ok (.iconst (-1), 1) := by decide +kernel
theorem dX3_nameHere_25 : decode fX3_nameHere.2.1 25 = .ok (.ireturn, 1) := by decide +kernel
theorem dX3_nameHere_26 : decode fX3_nameHere.2.1 26 = .ok (.aload_n 0, 1) := by decide +kernel
theorem dX3_nameHere_27 : decode fX3_nameHere.2.1 27 = .ok (.getfield 47, 3) := by decide +kernel
theorem dX3_nameHere_30 : decode fX3_nameHere.2.1 30 = .ok (.ifCond .ne 8, 3) := by decide +kernel
theorem dX3_nameHere_33 : decode fX3_nameHere.2.1 33 = .ok (.ldc 113, 2) := by decide +kernel
theorem dX3_nameHere_35 : decode fX3_nameHere.2.1 35 = .ok (.goto 18, 3) := by decide +kernel
theorem dX3_nameHere_38 : decode fX3_nameHere.2.1 38 = .ok (.aload_n 0, 1) := by decide +kernel
theorem dX3_nameHere_39 : decode fX3_nameHere.2.1 39 = .ok (.getfield 47, 3) := by decide +kernel
theorem dX3_nameHere_42 : decode fX3_nameHere.2.1 42 = .ok (.iconst 1, 1) := by decide +kernel
theorem dX3_nameHere_43 : decode fX3_nameHere.2.1 43 = .ok (.if_icmp .ne 8, 3) := by decide +kernel
theorem dX3_nameHere_46 : decode fX3_nameHere.2.1 46 = .ok (.ldc 115, 2) := by decide +kernel
theorem dX3_nameHere_48 : decode fX3_nameHere.2.1 48 = .ok (.goto 5, 3) := by decide +kernel
theorem dX3_nameHere_51 : decode fX3_nameHere.2.1 51 = .ok (.ldc 117, 2) := by decide +kernel
theorem dX3_nameHere_53 : decode fX3_nameHere.2.1 53 = .ok (.astore_n 1, 1) := by decide +kernel
theorem dX3_nameHere_54 : decode fX3_nameHere.2.1 54 = .ok (.aload_n 1, 1) := by decide +kernel
theorem dX3_nameHere_55 : decode fX3_nameHere.2.1 55 = .ok (.aload_n 0, 1) := by decide +kernel
theorem dX3_nameHere_56 : decode fX3_nameHere.2.1 56 = .ok (.getfield 9, 3) := by decide +kernel
theorem dX3_nameHere_59 : decode fX3_nameHere.2.1 59 = .ok (.aload_n 0, 1) := by decide +kernel
theorem dX3_nameHere_60 : decode fX3_nameHere.2.1 60 = .ok (.getfield 59, 3) := by decide +kernel
theorem dX3_nameHere_63 : decode fX3_nameHere.2.1 63 = .ok (.iaload, 1) := by decide +kernel
theorem dX3_nameHere_64 : decode fX3_nameHere.2.1 64 = .ok (.i2c, 1) := by decide +kernel
theorem dX3_nameHere_65 : decode fX3_nameHere.2.1 65 = .ok (.invokevirtual 119, 3) := by decide +kernel
theorem dX3_nameHere_68 : decode fX3_nameHere.2.1 68 = .ok (.ireturn, 1) := by decide +kernel
set_option maxRecDepth 100000 in
set_option maxHeartbeats 4000000 in
theorem ok_X3_nameHere {X : Xb} {S : Sg} {mi : Mem} {q len key j : Nat} {b : Nat → Int32} {P : Ps} (hT : TpA S q) (hB : TpB mi q b len) (hS : TpS mi q P) (hP : Pb len P) (hk : mi q 5 = nI key) (hk3 : key < 3) (hj : j < 128) (hbj : b P.1.1 = nI j) : OkI 4 fX3_nameHere X [rf X q] S mi (nmH b len key P) mi := by
  refine Ok.go [some (rf X q), none] (by decide) (by simp [Value.category]) (Nat.le_of_ble_eq_true rfl) rfl ?_
  obtain ⟨k_q, ⟨r_q_bytes, k_q_bytes⟩, ⟨r_q_steps, k_q_steps⟩⟩ := id hT
  obtain ⟨hb, hln⟩ := hB
  obtain ⟨p1, p2, p3, p4, p5, p6, p7⟩ := hP
  have ee : nI P.1.2.1 - nI P.1.1 = nI (P.1.2.1 - P.1.1) := pk_sub p1
  have i1 : nI (P.1.2.1 - P.1.1) = 1 ↔ P.1.2.1 - P.1.1 = 1 := nI_eq (b := 1) (by omega) (by decide)
  have s53 : ∀ i, i = 3 + key → P.1.2.1 - P.1.1 = 1 → P.1.1 < len → MW X fX3_nameHere (rmOf 4 0 0) 0 0 53 [some (rf X q), none] [.ref (sK X i)] S mi (mQ X 0 0 (pI (nmH b len key P) S mi)) := by
    intro i hi g1 g2
    refine mw_astN 1 dX3_nameHere_53 rfl (by decide) ?_
    refine mw_aload_n dX3_nameHere_54 rfl ?_
    refine mw_aload_n dX3_nameHere_55 rfl ?_
    refine mw_getr dX3_nameHere_56 fl_X3_9 rfl (by assumption) (by assumption) ?_
    refine mw_aload_n dX3_nameHere_59 rfl ?_
    refine mw_geti dX3_nameHere_60 fl_X3_59 rfl (by assumption) ?_
    rw [hS.1]
    refine mw_ialdK (k := P.1.1) dX3_nameHere_63 (by assumption) (rfl) (by omega) (by decide) ?_
    rw [hb, hbj]
    refine mw_i2c dX3_nameHere_64 ?_
    rw [c_127 j hj]
    refine mw_cKI (g := fJ0_indexOf_0f7a4) i (by omega) dX3_nameHere_65 ml_X3_119 mkJ0_indexOf_0f7a4 (ok_J0_indexOf_0f7a4 (by omega) hj) rfl rfl (Nat.le_of_ble_eq_true rfl) ⟨by decide, by decide⟩ ⟨by decide, by decide⟩ ?_
    exact mw_iret dX3_nameHere_68 rfl (by decide) (by decide) (⟨by rw [nmH, if_pos (And.intro g1 g2), hbj, hi], rfl, rfl⟩)
  have i0 : nI key = 0 ↔ key = 0 := nI_eq (b := 0) (by omega) (by decide)
  have ik : nI key = 1 ↔ key = 1 := nI_eq (b := 1) (by omega) (by decide)
  refine mw_aload_n dX3_nameHere_0 rfl ?_
  refine mw_geti dX3_nameHere_1 fl_X3_22 rfl (by assumption) ?_
  rw [hS.2.1]
  refine mw_aload_n dX3_nameHere_4 rfl ?_
  refine mw_geti dX3_nameHere_5 fl_X3_59 rfl (by assumption) ?_
  rw [hS.1]
  refine mw_isub dX3_nameHere_8 ?_
  rw [ee]
  refine mw_iconst (v := 1) dX3_nameHere_9 (by decide) ?_
  refine mw_icmp_ne (tgt := 24) dX3_nameHere_10 (by decide) (fun h10 => ?_) (fun h10 => ?_)
  · skip
    refine mw_iconst (v := (-1)) dX3_nameHere_24 (by decide) ?_
    exact mw_iret dX3_nameHere_25 rfl (by decide) (by decide) (⟨by first | (have g := h21; rw [nmH, if_neg (fun k => g (nI_lt k.2 (by omega)))]; done) | (rw [nmH, if_neg (fun k => h10 (i1.mpr k.1))]; done), rfl, rfl⟩)
  · skip
    refine mw_aload_n dX3_nameHere_13 rfl ?_
    refine mw_geti dX3_nameHere_14 fl_X3_59 rfl (by assumption) ?_
    rw [hS.1]
    refine mw_aload_n dX3_nameHere_17 rfl ?_
    refine mw_geti dX3_nameHere_18 fl_X3_18 rfl (by assumption) ?_
    rw [hln]
    refine mw_icmp_lt (tgt := 26) dX3_nameHere_21 (by decide) (fun h21 => ?_) (fun h21 => ?_)
    · skip
      have g1 := i1.mp h10
      have g2 : P.1.1 < len := (nI_ltI (by omega) (by omega)).mp h21
      refine mw_aload_n dX3_nameHere_26 rfl ?_
      refine mw_geti dX3_nameHere_27 fl_X3_47 rfl (by assumption) ?_
      rw [hk]
      refine mw_if_ne (tgt := 38) dX3_nameHere_30 (by decide) (fun h30 => ?_) (fun h30 => ?_)
      · skip
        refine mw_aload_n dX3_nameHere_38 rfl ?_
        refine mw_geti dX3_nameHere_39 fl_X3_47 rfl (by assumption) ?_
        rw [hk]
        refine mw_iconst (v := 1) dX3_nameHere_42 (by decide) ?_
        refine mw_icmp_ne (tgt := 51) dX3_nameHere_43 (by decide) (fun h43 => ?_) (fun h43 => ?_)
        · skip
          refine mw_ldcS 5 (by decide) rfl rfl dX3_nameHere_51 ?_
          first
            | (have g : key = 1 := ik.mp h43; exact MW.sub (by simp [lsub]) (s53 4 (by omega) g1 g2))
            | (have g : ¬ key = 1 := fun k => h43 (ik.mpr k); have g' : ¬ key = 0 := fun k => h30 (i0.mpr k); exact MW.sub (by simp [lsub]) (s53 5 (by omega) g1 g2))
            | (have g : key = 0 := i0.mp h30; exact MW.sub (by simp [lsub]) (s53 3 (by omega) g1 g2))
            | fail "stop"
        · skip
          refine mw_ldcS 4 (by decide) rfl rfl dX3_nameHere_46 ?_
          refine mw_goto (tgt := 53) dX3_nameHere_48 (by decide) ?_
          first
            | (have g : key = 1 := ik.mp h43; exact MW.sub (by simp [lsub]) (s53 4 (by omega) g1 g2))
            | (have g : ¬ key = 1 := fun k => h43 (ik.mpr k); have g' : ¬ key = 0 := fun k => h30 (i0.mpr k); exact MW.sub (by simp [lsub]) (s53 5 (by omega) g1 g2))
            | (have g : key = 0 := i0.mp h30; exact MW.sub (by simp [lsub]) (s53 3 (by omega) g1 g2))
            | fail "stop"
      · skip
        refine mw_ldcS 3 (by decide) rfl rfl dX3_nameHere_33 ?_
        refine mw_goto (tgt := 53) dX3_nameHere_35 (by decide) ?_
        first
          | (have g : key = 1 := ik.mp h43; exact MW.sub (by simp [lsub]) (s53 4 (by omega) g1 g2))
          | (have g : ¬ key = 1 := fun k => h43 (ik.mpr k); have g' : ¬ key = 0 := fun k => h30 (i0.mpr k); exact MW.sub (by simp [lsub]) (s53 5 (by omega) g1 g2))
          | (have g : key = 0 := i0.mp h30; exact MW.sub (by simp [lsub]) (s53 3 (by omega) g1 g2))
          | fail "stop"
    · skip
      refine mw_iconst (v := (-1)) dX3_nameHere_24 (by decide) ?_
      exact mw_iret dX3_nameHere_25 rfl (by decide) (by decide) (⟨by first | (have g := h21; rw [nmH, if_neg (fun k => g (nI_lt k.2 (by omega)))]; done) | (rw [nmH, if_neg (fun k => h10 (i1.mpr k.1))]; done), rfl, rfl⟩)
def hrF (b : Nat → Int32) (bg i : Nat) : Nat → Nat → Bool
  | 0, _ => true
  | f + 1, k => if b (bg + k) = sB i k then hrF b bg i f (k + 1) else false
def hrB (b : Nat → Int32) (P : Ps) (i : Nat) : Bool := if P.1.2.2 = 1 ∧ P.1.2.1 - P.1.1 = sN i then hrF b P.1.1 i (sN i) 0 else false
theorem dX3_isHere_0 : decode fX3_isHere.2.1 0 = .ok (.aload_n 0, 1) := by decide +kernel
theorem dX3_isHere_1 : decode fX3_isHere.2.1 1 = .ok (.getfield 25, 3) := by decide +kernel
theorem dX3_isHere_4 : decode fX3_isHere.2.1 4 = .ok (.iconst 1, 1) := by decide +kernel
theorem dX3_isHere_5 : decode fX3_isHere.2.1 5 = .ok (.if_icmp .ne 19, 3) := by decide +kernel
theorem dX3_isHere_8 : decode fX3_isHere.2.1 8 = .ok (.aload_n 0, 1) := by decide +kernel
theorem dX3_isHere_9 : decode fX3_isHere.2.1 9 = .ok (.getfield 22, 3) := by decide +kernel
theorem dX3_isHere_12 : decode fX3_isHere.2.1 12 = .ok (.aload_n 0, 1) := by decide +kernel
theorem dX3_isHere_13 : decode fX3_isHere.2.1 13 = .ok (.getfield 59, 3) := by decide +kernel
theorem dX3_isHere_16 : decode fX3_isHere.2.1 16 = .ok (.isub, 1) := by decide +kernel
theorem dX3_isHere_17 : decode fX3_isHere.2.1 17 = .ok (.aload_n 1, 1) := by decide +kernel
theorem dX3_isHere_18 : decode fX3_isHere.2.1 18 = .ok (.invokevirtual 76, 3) := by decide +kernel
theorem dX3_isHere_21 : decode fX3_isHere.2.1 21 = .ok (.if_icmp .eq 5, 3) := by decide +kernel
theorem dX3_isHere_24 : decode fX3_isHere.2.1 24 = .ok (.iconst 0, 1) := by decide +kernel
theorem dX3_isHere_25 : decode fX3_isHere.2.1 25 = .ok (.ireturn, 1) := by decide +kernel
theorem dX3_isHere_26 : decode fX3_isHere.2.1 26 = .ok (.iconst 0, 1) := by decide +kernel
theorem dX3_isHere_27 : decode fX3_isHere.2.1 27 = .ok (.istore_n 2, 1) := by decide +kernel
theorem dX3_isHere_28 : decode fX3_isHere.2.1 28 = .ok (.iload_n 2, 1) := by decide +kernel
theorem dX3_isHere_29 : decode fX3_isHere.2.1 29 = .ok (.aload_n 1, 1) := by decide +kernel
theorem dX3_isHere_30 : decode fX3_isHere.2.1 30 = .ok (.invokevirtual 76, 3) := by decide +kernel
theorem dX3_isHere_33 : decode fX3_isHere.2.1 33 = .ok (.if_icmp .ge 30, 3) := by decide +kernel
theorem dX3_isHere_36 : decode fX3_isHere.2.1 36 = .ok (.aload_n 0, 1) := by decide +kernel
theorem dX3_isHere_37 : decode fX3_isHere.2.1 37 = .ok (.getfield 9, 3) := by decide +kernel
theorem dX3_isHere_40 : decode fX3_isHere.2.1 40 = .ok (.aload_n 0, 1) := by decide +kernel
theorem dX3_isHere_41 : decode fX3_isHere.2.1 41 = .ok (.getfield 59, 3) := by decide +kernel
theorem dX3_isHere_44 : decode fX3_isHere.2.1 44 = .ok (.iload_n 2, 1) := by decide +kernel
theorem dX3_isHere_45 : decode fX3_isHere.2.1 45 = .ok (.iadd, 1) := by decide +kernel
theorem dX3_isHere_46 : decode fX3_isHere.2.1 46 = .ok (.iaload, 1) := by decide +kernel
theorem dX3_isHere_47 : decode fX3_isHere.2.1 47 = .ok (.aload_n 1, 1) := by decide +kernel
theorem dX3_isHere_48 : decode fX3_isHere.2.1 48 = .ok (.iload_n 2, 1) := by decide +kernel
theorem dX3_isHere_49 : decode fX3_isHere.2.1 49 = .ok (.invokevirtual 80, 3) := by decide +kernel
theorem dX3_isHere_52 : decode fX3_isHere.2.1 52 = .ok (.if_icmp .eq 5, 3) := by decide +kernel
theorem dX3_isHere_55 : decode fX3_isHere.2.1 55 = .ok (.iconst 0, 1) := by decide +kernel
theorem dX3_isHere_56 : decode fX3_isHere.2.1 56 = .ok (.ireturn, 1) := by decide +kernel
theorem dX3_isHere_57 : decode fX3_isHere.2.1 57 = .ok (.iinc 2 1, 3) := by decide +kernel
theorem dX3_isHere_60 : decode fX3_isHere.2.1 60 = .ok (.goto (-32), 3) := by decide +kernel
theorem dX3_isHere_63 : decode fX3_isHere.2.1 63 = .ok (.iconst 1, 1) := by decide +kernel
theorem dX3_isHere_64 : decode fX3_isHere.2.1 64 = .ok (.ireturn, 1) := by decide +kernel
set_option maxRecDepth 100000 in
set_option maxHeartbeats 4000000 in
theorem ok_X3_isHere {X : Xb} {S : Sg} {mi : Mem} {q len i : Nat} {b : Nat → Int32} {P : Ps} (hT : TpA S q) (hB : TpB mi q b len) (hS : TpS mi q P) (hP : Pb len P) (hi : i < 6) : OkI 4 fX3_isHere X [rf X q, .ref (sK X i)] S mi (b2i (hrB b P i = true)) mi := by
  refine Ok.go [some (rf X q), some (.ref (sK X i)), none] (by decide) (by simp [Value.category]) (Nat.le_of_ble_eq_true rfl) rfl ?_
  obtain ⟨k_q, ⟨r_q_bytes, k_q_bytes⟩, ⟨r_q_steps, k_q_steps⟩⟩ := id hT
  obtain ⟨hb, hln⟩ := hB
  obtain ⟨p1, p2, p3, p4, p5, p6, p7⟩ := hP
  have hN : ∀ i, i < 6 → sN i < 5 := by decide
  have hn := hN i hi
  have ee : nI P.1.2.1 - nI P.1.1 = nI (P.1.2.1 - P.1.1) := pk_sub p1
  have i1 : nI (P.1.2.1 - P.1.1) = nI (sN i) ↔ P.1.2.1 - P.1.1 = sN i := nI_eq (by omega) (by omega)
  have is : nI P.1.2.2 = 1 ↔ P.1.2.2 = 1 := nI_eq (b := 1) (by omega) (by decide)
  have lp : P.1.2.1 - P.1.1 = sN i → ∀ f k, f + k = sN i → hrF b P.1.1 i f k = hrB b P i → MW X fX3_isHere (rmOf 4 0 0) 0 0 28 [some (rf X q), some (.ref (sK X i)), some (.int (nI k))] [] S mi (mQ X 0 0 (pI (b2i (hrB b P i = true)) S mi)) := by
    intro hlen f
    induction f with
    | zero =>
      intro k hk hR
      refine mw_iload_n dX3_isHere_28 rfl ?_
      refine mw_aload_n dX3_isHere_29 rfl ?_
      refine mw_cKI (g := fJ0_length_8abf5) i hi dX3_isHere_30 ml_X3_76 mkJ0_length_8abf5 (ok_J0_length_8abf5 hi) rfl rfl (Nat.le_of_ble_eq_true rfl) ⟨by decide, by decide⟩ ⟨by decide, by decide⟩ ?_
      refine mw_icmp_ge (tgt := 63) dX3_isHere_33 (by decide) (fun h33 => ?_) (fun h33 => ?_)
      · skip
        refine mw_iconst (v := 1) dX3_isHere_63 (by decide) ?_
        exact mw_bret dX3_isHere_64 rfl (by first | exact Or.inl rfl | exact Or.inr rfl | exact b2i_01) (by decide) (by decide) (⟨by rw [← hR]; rfl, rfl, rfl⟩)
      · skip
        exact absurd (nI_le (show sN i ≤ k by omega) (by omega)) h33
    | succ f ih =>
      intro k hk hR
      have ea : nI P.1.1 + nI k = nI (P.1.1 + k) := by rw [nI_add]
      simp only [hrF] at hR
      refine mw_iload_n dX3_isHere_28 rfl ?_
      refine mw_aload_n dX3_isHere_29 rfl ?_
      refine mw_cKI (g := fJ0_length_8abf5) i hi dX3_isHere_30 ml_X3_76 mkJ0_length_8abf5 (ok_J0_length_8abf5 hi) rfl rfl (Nat.le_of_ble_eq_true rfl) ⟨by decide, by decide⟩ ⟨by decide, by decide⟩ ?_
      refine mw_icmp_ge (tgt := 63) dX3_isHere_33 (by decide) (fun h33 => ?_) (fun h33 => ?_)
      · skip
        exact absurd h33 (nI_ge (by omega) (by omega))
      · skip
        refine mw_aload_n dX3_isHere_36 rfl ?_
        refine mw_getr dX3_isHere_37 fl_X3_9 rfl (by assumption) (by assumption) ?_
        refine mw_aload_n dX3_isHere_40 rfl ?_
        refine mw_geti dX3_isHere_41 fl_X3_59 rfl (by assumption) ?_
        rw [hS.1]
        refine mw_iload_n dX3_isHere_44 rfl ?_
        refine mw_iadd dX3_isHere_45 ?_
        rw [ea]
        refine mw_ialdK (k := P.1.1 + k) dX3_isHere_46 (by assumption) (rfl) (by omega) (by decide) ?_
        rw [hb]
        refine mw_aload_n dX3_isHere_47 rfl ?_
        refine mw_iload_n dX3_isHere_48 rfl ?_
        refine mw_cKI (g := fJ0_charAt_5068e) i hi dX3_isHere_49 ml_X3_80 mkJ0_charAt_5068e (ok_J0_charAt_5068e hi (by omega)) rfl rfl (Nat.le_of_ble_eq_true rfl) ⟨by decide, by decide⟩ ⟨by decide, by decide⟩ ?_
        refine mw_icmp_eq (tgt := 57) dX3_isHere_52 (by decide) (fun h52 => ?_) (fun h52 => ?_)
        · skip
          refine mw_iincK (k := k) dX3_isHere_57 rfl rfl (by decide) ?_
          refine mw_goto (tgt := 28) dX3_isHere_60 (by decide) ?_
          exact MW.sub (by simp [lsub]) (ih (k + 1) (by omega) (by rw [if_pos h52] at hR; exact hR))
        · skip
          refine mw_iconst (v := 0) dX3_isHere_55 (by decide) ?_
          exact mw_bret dX3_isHere_56 rfl (by first | exact Or.inl rfl | exact Or.inr rfl | exact b2i_01) (by decide) (by decide) (⟨by rw [if_neg h52] at hR; rw [← hR]; rfl, rfl, rfl⟩)
  refine mw_aload_n dX3_isHere_0 rfl ?_
  refine mw_geti dX3_isHere_1 fl_X3_25 rfl (by assumption) ?_
  rw [hS.2.2.1]
  refine mw_iconst (v := 1) dX3_isHere_4 (by decide) ?_
  refine mw_icmp_ne (tgt := 24) dX3_isHere_5 (by decide) (fun h5 => ?_) (fun h5 => ?_)
  · skip
    refine mw_iconst (v := 0) dX3_isHere_24 (by decide) ?_
    exact mw_bret dX3_isHere_25 rfl (by first | exact Or.inl rfl | exact Or.inr rfl | exact b2i_01) (by decide) (by decide) (⟨by first | (have g := h21; rw [hrB, if_neg (fun k => g (i1.mpr k.2))]; rfl) | (rw [hrB, if_neg (fun k => h5 (is.mpr k.1))]; rfl), rfl, rfl⟩)
  · skip
    refine mw_aload_n dX3_isHere_8 rfl ?_
    refine mw_geti dX3_isHere_9 fl_X3_22 rfl (by assumption) ?_
    rw [hS.2.1]
    refine mw_aload_n dX3_isHere_12 rfl ?_
    refine mw_geti dX3_isHere_13 fl_X3_59 rfl (by assumption) ?_
    rw [hS.1]
    refine mw_isub dX3_isHere_16 ?_
    rw [ee]
    refine mw_aload_n dX3_isHere_17 rfl ?_
    refine mw_cKI (g := fJ0_length_8abf5) i hi dX3_isHere_18 ml_X3_76 mkJ0_length_8abf5 (ok_J0_length_8abf5 hi) rfl rfl (Nat.le_of_ble_eq_true rfl) ⟨by decide, by decide⟩ ⟨by decide, by decide⟩ ?_
    refine mw_icmp_eq (tgt := 26) dX3_isHere_21 (by decide) (fun h21 => ?_) (fun h21 => ?_)
    · skip
      refine mw_iconst (v := 0) dX3_isHere_26 (by decide) ?_
      refine mw_istN 2 dX3_isHere_27 rfl (by decide) ?_
      exact MW.sub (by simp [lsub, nI_0]) (lp (i1.mp h21) (sN i) 0 rfl (by rw [hrB, if_pos (And.intro (is.mp h5) (i1.mp h21))]))
    · skip
      refine mw_iconst (v := 0) dX3_isHere_24 (by decide) ?_
      exact mw_bret dX3_isHere_25 rfl (by first | exact Or.inl rfl | exact Or.inr rfl | exact b2i_01) (by decide) (by decide) (⟨by first | (have g := h21; rw [hrB, if_neg (fun k => g (i1.mpr k.2))]; rfl) | (rw [hrB, if_neg (fun k => h5 (is.mpr k.1))]; rfl), rfl, rfl⟩)
def keyH (b : Nat → Int32) (P : Ps) : Int32 := if hrB b P 0 = true then 0 else if hrB b P 1 = true then 1 else if hrB b P 2 = true then 2 else -1
theorem dX3_keyHere_0 : decode fX3_keyHere.2.1 0 = .ok (.aload_n 0, 1) := by decide +kernel
theorem dX3_keyHere_1 : decode fX3_keyHere.2.1 1 = .ok (.ldc 66, 2) := by decide +kernel
theorem dX3_keyHere_3 : decode fX3_keyHere.2.1 3 = .ok (.invokevirtual 68, 3) := by decide +kernel
theorem dX3_keyHere_6 : decode fX3_keyHere.2.1 6 = .ok (.ifCond .eq 5, 3) := by decide +kernel
theorem dX3_keyHere_9 : decode fX3_keyHere.2.1 9 = .ok (.iconst 0, 1) := by decide +kernel
theorem dX3_keyHere_10 : decode fX3_keyHere.2.1 10 = .ok (.ireturn, 1) := by decide +kernel
theorem dX3_keyHere_11 : decode fX3_keyHere.2.1 11 = .ok (.aload_n 0, 1) := by decide +kernel
theorem dX3_keyHere_12 : decode fX3_keyHere.2.1 12 = .ok (.ldc 72, 2) := by decide +kernel
theorem dX3_keyHere_14 : decode fX3_keyHere.2.1 14 = .ok (.invokevirtual 68, 3) := by decide +kernel
theorem dX3_keyHere_17 : decode fX3_keyHere.2.1 17 = .ok (.ifCond .eq 5, 3) := by decide +kernel
theorem dX3_keyHere_20 : decode fX3_keyHere.2.1 20 = .ok (.iconst 1, 1) := by decide +kernel
theorem dX3_keyHere_21 : decode fX3_keyHere.2.1 21 = .ok (.ireturn, 1) := by decide +kernel
theorem dX3_keyHere_22 : decode fX3_keyHere.2.1 22 = .ok (.aload_n 0, 1) := by decide +kernel
theorem dX3_keyHere_23 : decode fX3_keyHere.2.1 23 = .ok (.ldc 74, 2) := by decide +kernel
theorem dX3_keyHere_25 : decode fX3_keyHere.2.1 25 = .ok (.invokevirtual 68, 3) := by decide +kernel
theorem dX3_keyHere_28 : decode fX3_keyHere.2.1 28 = .ok (.ifCond .eq 7, 3) := by decide +kernel
theorem dX3_keyHere_31 : decode fX3_keyHere.2.1 31 = .ok (.iconst 2, 1) := by decide +kernel
theorem dX3_keyHere_32 : decode fX3_keyHere.2.1 32 = .ok (.goto 4, 3) := by decide +kernel
theorem dX3_keyHere_35 : decode fX3_keyHere.2.1 35 = .ok (.iconst (-1), 1) := by decide +kernel
theorem dX3_keyHere_36 : decode fX3_keyHere.2.1 36 = .ok (.ireturn, 1) := by decide +kernel
set_option maxRecDepth 100000 in
set_option maxHeartbeats 4000000 in
theorem ok_X3_keyHere {X : Xb} {S : Sg} {mi : Mem} {q len : Nat} {b : Nat → Int32} {P : Ps} (hT : TpA S q) (hB : TpB mi q b len) (hS : TpS mi q P) (hP : Pb len P) : OkI 5 fX3_keyHere X [rf X q] S mi (keyH b P) mi := by
  refine Ok.go [some (rf X q)] (by decide) (by simp [Value.category]) (Nat.le_of_ble_eq_true rfl) rfl ?_
  obtain ⟨k_q, ⟨r_q_bytes, k_q_bytes⟩, ⟨r_q_steps, k_q_steps⟩⟩ := id hT
  refine mw_aload_n dX3_keyHere_0 rfl ?_
  refine mw_ldcS 0 (by decide) rfl rfl dX3_keyHere_1 ?_
  refine mw_cVI (g := fX3_isHere) dX3_keyHere_3 ml_X3_68 mfX3_isHere (ok_X3_isHere (i := 0) hT hB hS hP (by decide)) (by assumption) rfl rfl (Nat.le_of_ble_eq_true rfl) ⟨by decide, by decide⟩ ⟨by decide, by decide⟩ ?_
  refine mw_if_eqB (tgt := 11) dX3_keyHere_6 (by decide) (fun h6 => ?_) (fun h6 => ?_)
  · skip
    refine mw_aload_n dX3_keyHere_11 rfl ?_
    refine mw_ldcS 1 (by decide) rfl rfl dX3_keyHere_12 ?_
    refine mw_cVI (g := fX3_isHere) dX3_keyHere_14 ml_X3_68 mfX3_isHere (ok_X3_isHere (i := 1) hT hB hS hP (by decide)) (by assumption) rfl rfl (Nat.le_of_ble_eq_true rfl) ⟨by decide, by decide⟩ ⟨by decide, by decide⟩ ?_
    refine mw_if_eqB (tgt := 22) dX3_keyHere_17 (by decide) (fun h17 => ?_) (fun h17 => ?_)
    · skip
      refine mw_aload_n dX3_keyHere_22 rfl ?_
      refine mw_ldcS 2 (by decide) rfl rfl dX3_keyHere_23 ?_
      refine mw_cVI (g := fX3_isHere) dX3_keyHere_25 ml_X3_68 mfX3_isHere (ok_X3_isHere (i := 2) hT hB hS hP (by decide)) (by assumption) rfl rfl (Nat.le_of_ble_eq_true rfl) ⟨by decide, by decide⟩ ⟨by decide, by decide⟩ ?_
      refine mw_if_eqB (tgt := 35) dX3_keyHere_28 (by decide) (fun h28 => ?_) (fun h28 => ?_)
      · skip
        refine mw_iconst (v := (-1)) dX3_keyHere_35 (by decide) ?_
        exact mw_iret dX3_keyHere_36 rfl (by decide) (by decide) (⟨by simp only [keyH]; simp_all, rfl, rfl⟩)
      · skip
        refine mw_iconst (v := 2) dX3_keyHere_31 (by decide) ?_
        refine mw_goto (tgt := 36) dX3_keyHere_32 (by decide) ?_
        exact mw_iret dX3_keyHere_36 rfl (by decide) (by decide) (⟨by simp only [keyH]; simp_all, rfl, rfl⟩)
    · skip
      refine mw_iconst (v := 1) dX3_keyHere_20 (by decide) ?_
      exact mw_iret dX3_keyHere_21 rfl (by decide) (by decide) (⟨by simp only [keyH]; simp_all, rfl, rfl⟩)
  · skip
    refine mw_iconst (v := 0) dX3_keyHere_9 (by decide) ?_
    exact mw_iret dX3_keyHere_10 rfl (by decide) (by decide) (⟨by simp only [keyH]; simp_all, rfl, rfl⟩)
