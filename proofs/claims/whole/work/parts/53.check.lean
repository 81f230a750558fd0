/-! the object: check, like -/
theorem tx_up {S : Sg} {m : Mem} {t j i k : Nat} {v : Int32} (h5 : t + 5 ≠ i) (hne : ∀ p len, TxA S p len → p + 1 ≠ i) (h : TxOk S m t j) : TxOk S (m_up m i k v) t j ∧ lwC S (m_up m i k v) t j = lwC S m t j := by
  have etx : txOf S (m_up m i k v) t j = txOf S m t j := by unfold txOf; rw [m_up_ne h5]
  have far : ∀ p len, TxA S p len → m_up m i k v (p + 1) = m (p + 1) := fun p len q => m_up_ne (hne p len q)
  refine ⟨fun p hp => ?_, ?_⟩
  · rw [etx] at hp
    obtain ⟨len, h1, h2⟩ := h p hp
    exact ⟨len, h1, by rw [far p len h1]; exact h2⟩
  · have e : ∀ p, txOf S m t j = some p → m_up m i k v (p + 1) = m (p + 1) := fun p hp => by
      obtain ⟨len, h1, -⟩ := h p hp
      exact far p len h1
    unfold lwC
    rw [etx]
    generalize txOf S m t j = q at e
    cases q with
    | none => rw [Option.map_none, Option.map_none]
    | some p => rw [Option.map_some, Option.map_some, e p rfl]
def chkF (w tl : Nat → Int32) (heard due : Nat) : Nat → Nat → Int32
  | 0, _ => if due < heard then nI (1 + due) else 0
  | f + 1, k => if heard ≤ k ∨ w k ≠ tl k then nI (1 + k) else chkF w tl heard due f (k + 1)
def tlF (lw : LawT) (n : Nat) (B : Nat → Int32) (k : Nat) : Int32 := if k % 2 = 0 then cHours lw n B (k / 2 + 1) 3 else fld (fun s i => s + cHours lw n B (k / 2 + 1) (26 + 5 * i + 4)) 0 n
def cCheck (lw : LawT) (B : Nat → Int32) (n h : Nat) (kept : Int32) (w : Nat → Int32) (wt : Nat) (v : Int32) : Int32 := if 1 ≤ v ∧ v ≤ 30 then (if kept = 0 then NOi else chkF w (tlF lw n B) wt (2 * min v.toNatClampNeg (9999 - h)) (2 * min v.toNatClampNeg (9999 - h)) 0) else BADi
theorem in130 {v : Int32} (h : 1 ≤ v ∧ v ≤ 30) : ∃ q, q ≤ 30 ∧ v = nI q := by
  obtain ⟨j, hj, rfl⟩ := nI_of (x := v) (Int32.not_lt.mpr (Int32.le_trans (show (0 : Int32) ≤ 1 by decide) h.1))
  exact ⟨j, (nI_leI (b := 30) hj (by decide)).mp h.2, rfl⟩
theorem due_eq {q h : Nat} (hq : q ≤ 30) (hh : h ≤ 9999) : (2 : Int32) * (if (9999 : Int32) - nI h < nI q then (9999 : Int32) - nI h else nI q) = nI (2 * min q (9999 - h)) := by
  have e : (9999 : Int32) - nI h = nI (9999 - h) := pk_sub (a := 9999) hh
  rw [e]
  by_cases c : 9999 - h < q
  · rw [if_pos (nI_lt c (by omega)), show min q (9999 - h) = 9999 - h by omega]
    show nI 2 * nI _ = _; rw [nI_mul]
  · rw [if_neg (fun g => c ((nI_ltI (by omega) (by omega)).mp g)), show min q (9999 - h) = q by omega]
    show nI 2 * nI _ = _; rw [nI_mul]
theorem jr2 {k : Nat} (hk : k < 2 ^ 31) : jr (nI k) 2 = nI (k % 2) := by
  show nI k - nI k / nI 2 * nI 2 = _
  exact pk_rem hk (by decide) (by decide)
theorem one_add (k : Nat) : (1 : Int32) + nI k = nI (1 + k) := by show nI 1 + nI k = _; rw [nI_add]
def PC (S : Sg) (mi : Mem) (x : Nat) (v : Int32) : Pt3 := fun r S' m => r = some (.int v) ∧ (S' = S ∨ S' = cpS S (x + 18) (x + 35) 14) ∧ m x = upd (mi x) 8 0 ∧ ∀ a, a ≠ x → (a < x + 18 ∨ x + 35 ≤ a) → m a = mi a
theorem dX6_check_0 : decode fX6_check.2.1 0 = .ok (.aload_n 0, 1) := by decide +kernel
theorem dX6_check_1 : decode fX6_check.2.1 1 = .ok (.getfield 297, 3) := by decide +kernel
theorem dX6_check_4 : decode fX6_check.2.1 4 = .ok (.istore_n 2, 1) := by decide +kernel
theorem dX6_check_5 : decode fX6_check.2.1 5 = .ok (.aload_n 0, 1) := by decide +kernel
theorem dX6_check_6 : decode fX6_check.2.1 6 = .ok (.iconst 0, 1) := by decide +kernel
theorem dX6_check_7 : decode fX6_check.2.1 7 = .ok (.putfield 297, 3) := by decide +kernel
theorem dX6_check_10 : decode fX6_check.2.1 10 = .ok (.iload_n 1, 1) := by decide +kernel
theorem dX6_check_11 : decode fX6_check.2.1 11 = .ok (.iconst 1, 1) := by decide +kernel
theorem dX6_check_12 : decode fX6_check.2.1 12 = .ok (.bipush 30, 2) := by decide +kernel
theorem dX6_check_14 : decode fX6_check.2.1 14 = .ok (.invokestatic 50, 3) := by decide +kernel
theorem dX6_check_17 : decode fX6_check.2.1 17 = .ok (.ifCond .ne 6, 3) := by decide +kernel
theorem dX6_check_20 : decode fX6_check.2.1 20 = .ok (.ldc 58, 2) := by decide +kernel
theorem dX6_check_22 : decode fX6_check.2.1 22 = .ok (.ireturn, 1) := by decide +kernel
theorem dX6_check_23 : decode fX6_check.2.1 23 = .ok (.aload_n 0, 1) := by decide +kernel
theorem dX6_check_24 : decode fX6_check.2.1 24 = .ok (.getfield 300, 3) := by decide +kernel
theorem dX6_check_27 : decode fX6_check.2.1 27 = .ok (.ifCond .ne 7, 3) := by decide +kernel
theorem dX6_check_30 : decode fX6_check.2.1 30 = .ok (.ldc_w 296, 3) := by decide +kernel
theorem dX6_check_33 : decode fX6_check.2.1 33 = .ok (.ireturn, 1) := by decide +kernel
theorem dX6_check_34 : decode fX6_check.2.1 34 = .ok (.aload_n 0, 1) := by decide +kernel
theorem dX6_check_35 : decode fX6_check.2.1 35 = .ok (.getfield 16, 3) := by decide +kernel
theorem dX6_check_38 : decode fX6_check.2.1 38 = .ok (.aload_n 0, 1) := by decide +kernel
theorem dX6_check_39 : decode fX6_check.2.1 39 = .ok (.getfield 19, 3) := by decide +kernel
theorem dX6_check_42 : decode fX6_check.2.1 42 = .ok (.invokevirtual 178, 3) := by decide +kernel
theorem dX6_check_45 : decode fX6_check.2.1 45 = .ok (.iconst 2, 1) := by decide +kernel
theorem dX6_check_46 : decode fX6_check.2.1 46 = .ok (.iload_n 1, 1) := by decide +kernel
theorem dX6_check_47 : decode fX6_check.2.1 47 = .ok (.sipush 9999, 3) := by decide +kernel
theorem dX6_check_50 : decode fX6_check.2.1 50 = .ok (.aload_n 0, 1) := by decide +kernel
theorem dX6_check_51 : decode fX6_check.2.1 51 = .ok (.getfield 19, 3) := by decide +kernel
theorem dX6_check_54 : decode fX6_check.2.1 54 = .ok (.getfield 148, 3) := by decide +kernel
theorem dX6_check_57 : decode fX6_check.2.1 57 = .ok (.isub, 1) := by decide +kernel
theorem dX6_check_58 : decode fX6_check.2.1 58 = .ok (.invokestatic 133, 3) := by decide +kernel
theorem dX6_check_61 : decode fX6_check.2.1 61 = .ok (.imul, 1) := by decide +kernel
theorem dX6_check_62 : decode fX6_check.2.1 62 = .ok (.istore_n 3, 1) := by decide +kernel
theorem dX6_check_63 : decode fX6_check.2.1 63 = .ok (.iconst 0, 1) := by decide +kernel
theorem dX6_check_64 : decode fX6_check.2.1 64 = .ok (.istore 4, 2) := by decide +kernel
theorem dX6_check_66 : decode fX6_check.2.1 66 = .ok (.iload 4, 2) := by decide +kernel
theorem dX6_check_68 : decode fX6_check.2.1 68 = .ok (.iload_n 3, 1) := by decide +kernel
theorem dX6_check_69 : decode fX6_check.2.1 69 = .ok (.if_icmp .ge 72, 3) := by decide +kernel
theorem dX6_check_72 : decode fX6_check.2.1 72 = .ok (.iload 4, 2) := by decide +kernel
theorem dX6_check_74 : decode fX6_check.2.1 74 = .ok (.iconst 2, 1) := by decide +kernel
theorem dX6_check_75 : decode fX6_check.2.1 75 = .ok (.irem, 1) := by decide +kernel
theorem dX6_check_76 : decode fX6_check.2.1 76 = .ok (.ifCond .ne 10, 3) := by decide +kernel
theorem dX6_check_79 : decode fX6_check.2.1 79 = .ok (.aload_n 0, 1) := by decide +kernel
theorem dX6_check_80 : decode fX6_check.2.1 80 = .ok (.getfield 16, 3) := by decide +kernel
theorem dX6_check_83 : decode fX6_check.2.1 83 = .ok (.invokevirtual 151, 3) := by decide +kernel
theorem dX6_check_86 : decode fX6_check.2.1 86 = .ok (.iload 4, 2) := by decide +kernel
theorem dX6_check_88 : decode fX6_check.2.1 88 = .ok (.iconst 2, 1) := by decide +kernel
theorem dX6_check_89 : decode fX6_check.2.1 89 = .ok (.irem, 1) := by decide +kernel
theorem dX6_check_90 : decode fX6_check.2.1 90 = .ok (.ifCond .ne 13, 3) := by decide +kernel
theorem dX6_check_93 : decode fX6_check.2.1 93 = .ok (.aload_n 0, 1) := by decide +kernel
theorem dX6_check_94 : decode fX6_check.2.1 94 = .ok (.getfield 16, 3) := by decide +kernel
theorem dX6_check_97 : decode fX6_check.2.1 97 = .ok (.getfield 145, 3) := by decide +kernel
theorem dX6_check_100 : decode fX6_check.2.1 100 = .ok (.goto 10, 3) := by decide +kernel
theorem dX6_check_103 : decode fX6_check.2.1 103 = .ok (.aload_n 0, 1) := by decide +kernel
theorem dX6_check_104 : decode fX6_check.2.1 104 = .ok (.getfield 16, 3) := by decide +kernel
theorem dX6_check_107 : decode fX6_check.2.1 107 = .ok (.invokevirtual 154, 3) := by decide +kernel
theorem dX6_check_110 : decode fX6_check.2.1 110 = .ok (.istore 5, 2) := by decide +kernel
theorem dX6_check_112 : decode fX6_check.2.1 112 = .ok (.iload 4, 2) := by decide +kernel
theorem dX6_check_114 : decode fX6_check.2.1 114 = .ok (.iload_n 2, 1) := by decide +kernel
theorem dX6_check_115 : decode fX6_check.2.1 115 = .ok (.if_icmp .ge 15, 3) := by decide +kernel
theorem dX6_check_118 : decode fX6_check.2.1 118 = .ok (.aload_n 0, 1) := by decide +kernel
theorem dX6_check_119 : decode fX6_check.2.1 119 = .ok (.getfield 41, 3) := by decide +kernel
theorem dX6_check_122 : decode fX6_check.2.1 122 = .ok (.iload 4, 2) := by decide +kernel
theorem dX6_check_124 : decode fX6_check.2.1 124 = .ok (.iaload, 1) := by decide +kernel
theorem dX6_check_125 : decode fX6_check.2.1 125 = .ok (.iload 5, 2) := by decide +kernel
theorem dX6_check_127 : decode fX6_check.2.1 127 = .ok (.if_icmp .eq 8, 3) := by decide +kernel
theorem dX6_check_130 : decode fX6_check.2.1 130 = .ok (.iconst 1, 1) := by decide +kernel
theorem dX6_check_131 : decode fX6_check.2.1 131 = .ok (.iload 4, 2) := by decide +kernel
theorem dX6_check_133 : decode fX6_check.2.1 133 = .ok (.iadd, 1) := by decide +kernel
theorem dX6_check_134 : decode fX6_check.2.1 134 = .ok (.ireturn, 1) := by decide +kernel
theorem dX6_check_135 : decode fX6_check.2.1 135 = .ok (.iinc 4 1, 3) := by decide +kernel
theorem dX6_check_138 : decode fX6_check.2.1 138 = .ok (.goto (-72), 3) := by decide +kernel
theorem dX6_check_141 : decode fX6_check.2.1 141 = .ok (.iload_n 2, 1) := by decide +kernel
theorem dX6_check_142 : decode fX6_check.2.1 142 = .ok (.iload_n 3, 1) := by decide +kernel
theorem dX6_check_143 : decode fX6_check.2.1 143 = .ok (.if_icmp .le 9, 3) := by decide +kernel
theorem dX6_check_146 : decode fX6_check.2.1 146 = .ok (.iconst 1, 1) := by decide +kernel
theorem dX6_check_147 : decode fX6_check.2.1 147 = .ok (.iload_n 3, 1) := by decide +kernel
theorem dX6_check_148 : decode fX6_check.2.1 148 = .ok (.iadd, 1) := by decide +kernel
theorem dX6_check_149 : decode fX6_check.2.1 149 = .ok (.goto 4, 3) := by decide +kernel
theorem dX6_check_152 : decode fX6_check.2.1 152 = .ok (.iconst 0, 1) := by decide +kernel
theorem dX6_check_153 : decode fX6_check.2.1 153 = .ok (.ireturn, 1) := by decide +kernel
set_option maxRecDepth 100000 in
set_option maxHeartbeats 4000000 in
theorem ok_X6_check {X : Xb} {S : Sg} {mi : Mem} {x n h wt : Nat} {B : Nat → Int32} {lw : LawT} {v : Int32} (hX : AsA S x) (hw : mi x 8 = nI wt) (hw60 : wt ≤ 60) (hk : mi x 3 = 0 ∨ (mi x 3 = 1 ∧ n ≤ 8 ∧ eqOn (26 + 5 * n) (tv mi (x + 35)) B ∧ B 1 = nI n ∧ B 2 = nI h ∧ h ≤ 9999 ∧ TxOk S mi (x + 35) 0 ∧ lwC S mi (x + 35) 0 = lw ∧ TxR S (x + 35))) : Ok 5 0 0 fX6_check X [rf X x, .int v] S mi (PC S mi x (cCheck lw B n h (mi x 3) (mi (x + 57)) wt v)) := by
  refine Ok.go [some (rf X x), some (.int v), none, none, none, none] (by decide) (by simp [Value.category]) (Nat.le_of_ble_eq_true rfl) rfl ?_
  obtain ⟨k_x, ⟨r_x_now, t_now⟩, ⟨r_x_thought, t_thought⟩, ⟨r_x_image, t_image⟩, ⟨r_x_tape, t_tape⟩, ⟨r_x_sheets, k_x_sheets⟩, ⟨r_x_slots, k_x_slots⟩, ⟨r_x_waiting, k_x_waiting⟩, ⟨r_x_diff, k_x_diff⟩, a_sheets, a_slots⟩ := id hX
  have z : m_up mi x 8 0 x = upd (mi x) 8 0 := m_up_row _ _ _ _
  have zf : ∀ a, a ≠ x → (a < x + 18 ∨ x + 35 ≤ a) → m_up mi x 8 0 a = mi a := fun a h1 _ => m_up_ne h1
  have z3 : m_up mi x 8 0 x 3 = mi x 3 := by simp [m_up]
  have hT2 : TwA (cpS S (x + 18) (x + 35) 14) (x + 18) := TwA.cp t_thought t_thought.2.2.2.2.1.2
  have nx : x ≠ x + 18 + 4 := by omega
  have k_x2 : Kd (cpS S (x + 18) (x + 35) 14) x 6 0 := k_x
  have k_w2 : Kd (cpS S (x + 18) (x + 35) 14) (x + 57) 8 60 := k_x_waiting
  have k_i2 : Kd (cpS S (x + 18) (x + 35) 14) (x + 35) 5 0 := t_image.1
  have k_t2 := hT2.1
  have r_x2 : (cpS S (x + 18) (x + 35) 14).2.2 x 1 = some (x + 18) := by show cpR S.2.2 (x + 18) (x + 35) 14 x 1 = _; simp only [cpR, nx, false_and, if_false]; exact r_x_thought
  have r_x3 : (cpS S (x + 18) (x + 35) 14).2.2 x 7 = some (x + 57) := by show cpR S.2.2 (x + 18) (x + 35) 14 x 7 = _; simp only [cpR, nx, false_and, if_false]; exact r_x_waiting
  have r_x4 : (cpS S (x + 18) (x + 35) 14).2.2 x 2 = some (x + 35) := by show cpR S.2.2 (x + 18) (x + 35) 14 x 2 = _; simp only [cpR, nx, false_and, if_false]; exact r_x_image
  have go : ∀ q, q ≤ 30 → v = nI q → mi x 3 = 1 → n ≤ 8 → B 1 = nI n → h ≤ 9999 → ∀ m0, m0 x = upd (mi x) 8 0 → (∀ a, a ≠ x → (a < x + 18 ∨ x + 35 ≤ a) → m0 a = mi a) → eqOn (26 + 5 * n) (tv m0 (x + 18)) B → TxOk (cpS S (x + 18) (x + 35) 14) m0 (x + 18) 0 → lwC (cpS S (x + 18) (x + 35) 14) m0 (x + 18) 0 = lw → (1 ≤ v ∧ v ≤ 30) → ∀ due, due = 2 * min q (9999 - h) → MW X fX6_check (rmOf 5 0 0) 0 0 66 [some (rf X x), some (.int v), some (.int (nI wt)), some (.int (nI due)), some (.int (nI 0)), none] [] (cpS S (x + 18) (x + 35) 14) m0 (mQ X 0 0 (PC S mi x (cCheck lw B n h (mi x 3) (mi (x + 57)) wt v))) := by
    intro q q30 hv h1 hn8 hn h99 m0 f0 f1 a0 x0 l0 hvr due hdue
    have ew0 : m0 (x + 57) = mi (x + 57) := f1 _ (by omega) (by omega)
    have lp : ∀ f k m, f + k = due → Frt (x + 18) m0 m → eqOn (26 + 5 * n) (tv m (x + 18)) (cHours lw n B ((k + 1) / 2)) → chkF (mi (x + 57)) (tlF lw n B) wt due f k = cCheck lw B n h (mi x 3) (mi (x + 57)) wt v → MW X fX6_check (rmOf 5 0 0) 0 0 66 [some (rf X x), some (.int v), some (.int (nI wt)), some (.int (nI due)), some (.int (nI k)), none] [] (cpS S (x + 18) (x + 35) 14) m (mQ X 0 0 (PC S mi x (cCheck lw B n h (mi x 3) (mi (x + 57)) wt v))) := by
      intro f
      induction f with
      | zero =>
        intro k m hk hF h2 hV
        obtain rfl : k = due := by omega
        have e1 : m x = upd (mi x) 8 0 := by rw [hF x (by omega) (by omega) (by omega) (by omega)]; exact f0
        have e2 : ∀ a, a ≠ x → (a < x + 18 ∨ x + 35 ≤ a) → m a = mi a := fun a g1 g2 => by rw [hF a (by omega) (by omega) (by omega) (by omega)]; exact f1 a g1 g2
        simp only [chkF] at hV
        refine mw_iload dX6_check_66 rfl ?_
        refine mw_iload_n dX6_check_68 rfl ?_
        refine mw_icmp_ge (tgt := 141) dX6_check_69 (by decide) (fun h69 => ?_) (fun h69 => ?_)
        · skip
          refine mw_iload_n dX6_check_141 rfl ?_
          refine mw_iload_n dX6_check_142 rfl ?_
          refine mw_icmp_le (tgt := 152) dX6_check_143 (by decide) (fun h143 => ?_) (fun h143 => ?_)
          · skip
            refine mw_iconst (v := 0) dX6_check_152 (by decide) ?_
            exact mw_iret dX6_check_153 rfl (by decide) (by decide) (by first | exact ⟨by rw [if_neg (fun g => absurd h143 (Int32.not_le.mpr (nI_lt g (by omega))))] at hV; rw [← hV], Or.inr rfl, e1, e2⟩ | exact ⟨by rw [if_pos (by rcases Nat.lt_or_ge k wt with g | g; exact g; exact absurd (nI_le g (by omega)) h143)] at hV; rw [← hV, one_add], Or.inr rfl, e1, e2⟩ | fail "leaf")
          · skip
            refine mw_iconst (v := 1) dX6_check_146 (by decide) ?_
            refine mw_iload_n dX6_check_147 rfl ?_
            refine mw_iadd dX6_check_148 ?_
            refine mw_goto (tgt := 153) dX6_check_149 (by decide) ?_
            exact mw_iret dX6_check_153 rfl (by decide) (by decide) (by first | exact ⟨by rw [if_neg (fun g => absurd h143 (Int32.not_le.mpr (nI_lt g (by omega))))] at hV; rw [← hV], Or.inr rfl, e1, e2⟩ | exact ⟨by rw [if_pos (by rcases Nat.lt_or_ge k wt with g | g; exact g; exact absurd (nI_le g (by omega)) h143)] at hV; rw [← hV, one_add], Or.inr rfl, e1, e2⟩ | fail "leaf")
        · skip
          exact absurd (Int32.le_refl _) h69
      | succ f ih =>
        intro k m hk hF h2 hV
        simp only [chkF] at hV
        have er : jr (nI k) 2 = nI (k % 2) := jr2 (by omega)
        have kd31 : k < 60 := by omega
        have s86 : ∀ m, Frt (x + 18) m0 m → eqOn (26 + 5 * n) (tv m (x + 18)) (cHours lw n B (k / 2 + 1)) → MW X fX6_check (rmOf 5 0 0) 0 0 86 [some (rf X x), some (.int v), some (.int (nI wt)), some (.int (nI due)), some (.int (nI k)), none] [] (cpS S (x + 18) (x + 35) 14) m (mQ X 0 0 (PC S mi x (cCheck lw B n h (mi x 3) (mi (x + 57)) wt v))) := by
          intro m hF h2
          have e1 : m x = upd (mi x) 8 0 := by rw [hF x (by omega) (by omega) (by omega) (by omega)]; exact f0
          have e2 : ∀ a, a ≠ x → (a < x + 18 ∨ x + 35 ≤ a) → m a = mi a := fun a g1 g2 => by rw [hF a (by omega) (by omega) (by omega) (by omega)]; exact f1 a g1 g2
          have ew : m (x + 57) = mi (x + 57) := e2 _ (by omega) (by omega)
          have b3 : m (x + 18) 8 = cHours lw n B (k / 2 + 1) 3 := tv_0 (j := 3) h2 (by decide) (by omega)
          have hn2 : cHours lw n B (k / 2 + 1) 1 = nI n := by rw [cHours_lo (by decide) (by decide) (by decide) (by decide) (by decide) (by decide), hn]
          have b1 : m (x + 18) 3 = nI n := by rw [show (3 : Nat) = tvF 1 from rfl, tv_0 h2 (by decide) (by omega), hn2]
          have bo : fld (fun s i => s + m (x + 18 + 9 + i) 4) 0 n = fld (fun s i => s + cHours lw n B (k / 2 + 1) (26 + 5 * i + 4)) 0 n := fld_congr n (fun s i hi => by rw [tv_A (a := i) (f := 4) h2 (by decide) (by omega)])
          refine mw_iload dX6_check_86 rfl ?_
          refine mw_iconst (v := 2) dX6_check_88 (by decide) ?_
          refine mw_irem dX6_check_89 (by decide) ?_
          rw [er]
          refine mw_if_ne (tgt := 103) dX6_check_90 (by decide) (fun h90 => ?_) (fun h90 => ?_)
          · skip
            have tk : tlF lw n B k = fld (fun s i => s + cHours lw n B (k / 2 + 1) (26 + 5 * i + 4)) 0 n := by rw [tlF, if_neg (fun g => h90 (by rw [g]; rfl))]
            refine mw_aload_n dX6_check_103 rfl ?_
            refine mw_getr dX6_check_104 fl_X6_16 rfl (by assumption) (by assumption) ?_
            refine mw_cVI (g := fX5_owedByAll) dX6_check_107 ml_X6_154 mfX5_owedByAll (ok_X5_owedByAll hT2 b1 hn8) (by assumption) rfl rfl (Nat.le_of_ble_eq_true rfl) ⟨by decide, by decide⟩ ⟨by decide, by decide⟩ ?_
            first
              | rw [bo, ← tk]
              | rw [← tk]
              | fail "b110"
            refine mw_istore dX6_check_110 (by decide) ?_
            refine mw_iload dX6_check_112 rfl ?_
            refine mw_iload_n dX6_check_114 rfl ?_
            refine mw_icmp_ge (tgt := 130) dX6_check_115 (by decide) (fun h115 => ?_) (fun h115 => ?_)
            · skip
              refine mw_iconst (v := 1) dX6_check_130 (by decide) ?_
              refine mw_iload dX6_check_131 rfl ?_
              refine mw_iadd dX6_check_133 ?_
              rw [one_add]
              exact mw_iret dX6_check_134 rfl (by decide) (by decide) (by first | exact ⟨by rw [if_pos (Or.inl ((nI_leI (by omega) (by omega)).mp h115))] at hV; rw [← hV], Or.inr rfl, e1, e2⟩ | exact ⟨by rw [if_pos (Or.inr h127)] at hV; rw [← hV], Or.inr rfl, e1, e2⟩ | fail "leaf")
            · skip
              refine mw_aload_n dX6_check_118 rfl ?_
              refine mw_getr dX6_check_119 fl_X6_41 rfl (by assumption) (by assumption) ?_
              refine mw_iload dX6_check_122 rfl ?_
              refine mw_ialdK (k := k) dX6_check_124 (by assumption) (rfl) (by omega) (by decide) ?_
              rw [ew]
              refine mw_iload dX6_check_125 rfl ?_
              refine mw_icmp_eq (tgt := 135) dX6_check_127 (by decide) (fun h127 => ?_) (fun h127 => ?_)
              · skip
                refine mw_iincK (k := k) dX6_check_135 rfl rfl (by decide) ?_
                refine mw_goto (tgt := 66) dX6_check_138 (by decide) ?_
                rw [if_neg (fun g => g.elim (fun a => h115 (nI_le a (by omega))) (fun b => b h127))] at hV
                exact MW.sub (by simp [lsub]) (ih (k + 1) m (by omega) hF (by rw [show (k + 1 + 1) / 2 = k / 2 + 1 by omega]; exact h2) hV)
              · skip
                refine mw_iconst (v := 1) dX6_check_130 (by decide) ?_
                refine mw_iload dX6_check_131 rfl ?_
                refine mw_iadd dX6_check_133 ?_
                rw [one_add]
                exact mw_iret dX6_check_134 rfl (by decide) (by decide) (by first | exact ⟨by rw [if_pos (Or.inl ((nI_leI (by omega) (by omega)).mp h115))] at hV; rw [← hV], Or.inr rfl, e1, e2⟩ | exact ⟨by rw [if_pos (Or.inr h127)] at hV; rw [← hV], Or.inr rfl, e1, e2⟩ | fail "leaf")
          · skip
            have tk : tlF lw n B k = cHours lw n B (k / 2 + 1) 3 := by rw [tlF, if_pos ((nI_eq (b := 0) (by omega) (by decide)).mp h90)]
            refine mw_aload_n dX6_check_93 rfl ?_
            refine mw_getr dX6_check_94 fl_X6_16 rfl (by assumption) (by assumption) ?_
            refine mw_geti dX6_check_97 fl_X6_145 rfl (by assumption) ?_
            rw [b3]
            refine mw_goto (tgt := 110) dX6_check_100 (by decide) ?_
            first
              | rw [bo, ← tk]
              | rw [← tk]
              | fail "b110"
            refine mw_istore dX6_check_110 (by decide) ?_
            refine mw_iload dX6_check_112 rfl ?_
            refine mw_iload_n dX6_check_114 rfl ?_
            refine mw_icmp_ge (tgt := 130) dX6_check_115 (by decide) (fun h115 => ?_) (fun h115 => ?_)
            · skip
              refine mw_iconst (v := 1) dX6_check_130 (by decide) ?_
              refine mw_iload dX6_check_131 rfl ?_
              refine mw_iadd dX6_check_133 ?_
              rw [one_add]
              exact mw_iret dX6_check_134 rfl (by decide) (by decide) (by first | exact ⟨by rw [if_pos (Or.inl ((nI_leI (by omega) (by omega)).mp h115))] at hV; rw [← hV], Or.inr rfl, e1, e2⟩ | exact ⟨by rw [if_pos (Or.inr h127)] at hV; rw [← hV], Or.inr rfl, e1, e2⟩ | fail "leaf")
            · skip
              refine mw_aload_n dX6_check_118 rfl ?_
              refine mw_getr dX6_check_119 fl_X6_41 rfl (by assumption) (by assumption) ?_
              refine mw_iload dX6_check_122 rfl ?_
              refine mw_ialdK (k := k) dX6_check_124 (by assumption) (rfl) (by omega) (by decide) ?_
              rw [ew]
              refine mw_iload dX6_check_125 rfl ?_
              refine mw_icmp_eq (tgt := 135) dX6_check_127 (by decide) (fun h127 => ?_) (fun h127 => ?_)
              · skip
                refine mw_iincK (k := k) dX6_check_135 rfl rfl (by decide) ?_
                refine mw_goto (tgt := 66) dX6_check_138 (by decide) ?_
                rw [if_neg (fun g => g.elim (fun a => h115 (nI_le a (by omega))) (fun b => b h127))] at hV
                exact MW.sub (by simp [lsub]) (ih (k + 1) m (by omega) hF (by rw [show (k + 1 + 1) / 2 = k / 2 + 1 by omega]; exact h2) hV)
              · skip
                refine mw_iconst (v := 1) dX6_check_130 (by decide) ?_
                refine mw_iload dX6_check_131 rfl ?_
                refine mw_iadd dX6_check_133 ?_
                rw [one_add]
                exact mw_iret dX6_check_134 rfl (by decide) (by decide) (by first | exact ⟨by rw [if_pos (Or.inl ((nI_leI (by omega) (by omega)).mp h115))] at hV; rw [← hV], Or.inr rfl, e1, e2⟩ | exact ⟨by rw [if_pos (Or.inr h127)] at hV; rw [← hV], Or.inr rfl, e1, e2⟩ | fail "leaf")
        have hx2 := x0.fr hT2 hF
        have hl2 : lwC (cpS S (x + 18) (x + 35) 14) m (x + 18) 0 = lw := (lwC_fr hT2 x0 hF).trans l0
        have hn2 : cHours lw n B ((k + 1) / 2) 1 = nI n := by rw [cHours_lo (by decide) (by decide) (by decide) (by decide) (by decide) (by decide), hn]
        refine mw_iload dX6_check_66 rfl ?_
        refine mw_iload_n dX6_check_68 rfl ?_
        refine mw_icmp_ge (tgt := 141) dX6_check_69 (by decide) (fun h69 => ?_) (fun h69 => ?_)
        · skip
          exact absurd h69 (nI_ge (by omega) (by omega))
        · skip
          refine mw_iload dX6_check_72 rfl ?_
          refine mw_iconst (v := 2) dX6_check_74 (by decide) ?_
          refine mw_irem dX6_check_75 (by decide) ?_
          rw [er]
          refine mw_if_ne (tgt := 86) dX6_check_76 (by decide) (fun h76 => ?_) (fun h76 => ?_)
          · skip
            first
              | exact s86 _ (hF.tr e5) e4
              | exact s86 m hF (by have par : k % 2 ≠ 0 := (fun g => h76 (by rw [g]; rfl)); rw [show k / 2 + 1 = (k + 1) / 2 by omega]; exact h2)
              | fail "stop"
          · skip
            refine mw_aload_n dX6_check_79 rfl ?_
            refine mw_getr dX6_check_80 fl_X6_16 rfl (by assumption) (by assumption) ?_
            refine mw_callV (g := fX5_passHour) dX6_check_83 ml_X6_151 mfX5_passHour (ok_X5_passHour hT2 hn8 h2 hn2 hx2 hl2) (k_t2) rfl rfl (Nat.le_of_ble_eq_true rfl) ⟨by decide, by decide⟩ ⟨by decide, by decide⟩ (fun r S2 mi2 hp => ?_)
            obtain ⟨rfl, e1, e4, e5⟩ := hp
            rw [e1]
            have par : k % 2 = 0 := (nI_eq (b := 0) (by omega) (by decide)).mp h76
            have e6 : hourF lw n (cHours lw n B ((k + 1) / 2)) = cHours lw n B (k / 2 + 1) := by rw [show (k + 1) / 2 = k / 2 by omega]; rfl
            rw [e6] at e4
            first
              | exact s86 _ (hF.tr e5) e4
              | exact s86 m hF (by have par : k % 2 ≠ 0 := (fun g => h76 (by rw [g]; rfl)); rw [show k / 2 + 1 = (k + 1) / 2 by omega]; exact h2)
              | fail "stop"
    refine lp due 0 m0 (by omega) (Frt.rf _ _) a0 ?_
    have ev : v.toNatClampNeg = q := by rw [hv, nI_clamp (by omega)]
    rw [cCheck, if_pos hvr, if_neg (by rw [h1]; decide), ev, ← hdue]
  refine mw_aload_n dX6_check_0 rfl ?_
  refine mw_geti dX6_check_1 fl_X6_297 rfl (by assumption) ?_
  rw [hw]
  refine mw_istN 2 dX6_check_4 rfl (by decide) ?_
  refine mw_aload_n dX6_check_5 rfl ?_
  refine mw_iconst (v := 0) dX6_check_6 (by decide) ?_
  refine mw_puti dX6_check_7 fl_X6_297 ft_6_8 rfl (rfl) rfl (by assumption) ?_
  refine mw_iload_n dX6_check_10 rfl ?_
  refine mw_iconst (v := 1) dX6_check_11 (by decide) ?_
  refine mw_bipush (v := 30) dX6_check_12 (by decide) ?_
  refine mw_cSI (g := fX6_within) dX6_check_14 ml_X6_50 mfX6_within (ok_X6_within) rfl rfl (Nat.le_of_ble_eq_true rfl) ⟨by decide, by decide⟩ ⟨by decide, by decide⟩ ?_
  refine mw_if_neB (tgt := 23) dX6_check_17 (by decide) (fun h17 => ?_) (fun h17 => ?_)
  · skip
    refine mw_aload_n dX6_check_23 rfl ?_
    refine mw_geti dX6_check_24 fl_X6_300 rfl (by assumption) ?_
    rw [z3]
    refine mw_if_ne (tgt := 34) dX6_check_27 (by decide) (fun h27 => ?_) (fun h27 => ?_)
    · skip
      obtain ⟨h1, hn8, hB, hn, hh, h99, hx, hl, hr⟩ := hk.resolve_left h27
      obtain ⟨q, q30, hv⟩ := in130 h17
      have nxp : ∀ p len, TxA S p len → p + 1 ≠ x := fun p len g => Kd_ne g.2.2.1 k_x (by decide)
      have tu := tx_up (k := 8) (v := 0) (show x + 35 + 5 ≠ x by omega) nxp hx
      have ec : m_up mi x 8 0 (x + 35) 3 = nI n := by rw [m_up_ne (by omega), show (3 : Nat) = tvF 1 from rfl, tv_0 hB (by decide) (by omega), hn]
      have ehh : mi (x + 35) 10 = nI h := by rw [show (10 : Nat) = tvF 2 from rfl, tv_0 hB (by decide) (by omega), hh]
      refine mw_aload_n dX6_check_34 rfl ?_
      refine mw_getr dX6_check_35 fl_X6_16 rfl (by assumption) (by assumption) ?_
      refine mw_aload_n dX6_check_38 rfl ?_
      refine mw_getr dX6_check_39 fl_X6_19 rfl (by assumption) (by assumption) ?_
      refine mw_callV (g := fX5_takeAfter) dX6_check_42 ml_X6_178 mfX5_takeAfter (ok_X5_takeAfter (n := n) t_thought t_image (by omega) ec hn8 hr) (t_thought.1) rfl rfl (Nat.le_of_ble_eq_true rfl) ⟨by decide, by decide⟩ ⟨by decide, by decide⟩ (fun r S2 mi2 hp => ?_)
      obtain ⟨rfl, e1, e2, e3, e4⟩ := hp
      rw [e1]
      obtain ⟨x0, l0⟩ := take_tx (j := 0) t_thought (by decide) tu.1 e2 e4
      have e9 : mi2 (x + 35) 10 = nI h := by rw [e2 (x + 35) (by omega), m_up_ne (by omega), ehh]
      refine mw_iconst (v := 2) dX6_check_45 (by decide) ?_
      refine mw_iload_n dX6_check_46 rfl ?_
      refine mw_sipush (v := 9999) dX6_check_47 (by decide) ?_
      refine mw_aload_n dX6_check_50 rfl ?_
      refine mw_getr dX6_check_51 fl_X6_19 rfl (by assumption) (by assumption) ?_
      refine mw_geti dX6_check_54 fl_X6_148 rfl (by assumption) ?_
      rw [e9]
      refine mw_isub dX6_check_57 ?_
      refine mw_mmin dX6_check_58 ml_X6_133 (Nat.le_of_ble_eq_true rfl) ⟨by decide, by decide⟩ ⟨by decide, by decide⟩ ?_
      rw [hv]
      refine mw_imul dX6_check_61 ?_
      rw [due_eq q30 h99, ← hv]
      refine mw_istN 3 dX6_check_62 rfl (by decide) ?_
      refine mw_iconst (v := 0) dX6_check_63 (by decide) ?_
      refine mw_istore dX6_check_64 (by decide) ?_
      exact MW.sub (by simp [lsub, nI_0]) (go q q30 hv h1 hn8 hn h99 _ ((e2 x (by omega)).trans z) (fun a g1 g2 => (e2 a (by omega)).trans (m_up_ne g1)) (e3.tr (fun j hj => by rw [← hB j hj]; unfold tv; rw [m_up_ne (show x + 35 ≠ x by omega), m_up_ne (show x + 35 + 1 ≠ x by omega), m_up_ne (show x + 35 + 2 ≠ x by omega), m_up_ne (show x + 35 + 9 + (j - 26) / 5 ≠ x by omega)])) x0 (l0.trans (tu.2.trans hl)) h17 _ rfl)
    · skip
      refine mw_ldcw dX6_check_30 cn_X6_296 ?_
      exact mw_iret dX6_check_33 rfl (by decide) (by decide) (by rw [cCheck, if_pos h17, if_pos h27]; exact ⟨rfl, Or.inl rfl, z, zf⟩)
  · skip
    refine mw_ldc dX6_check_20 cn_X6_58 ?_
    exact mw_iret dX6_check_22 rfl (by decide) (by decide) (by rw [cCheck, if_neg h17]; exact ⟨rfl, Or.inl rfl, z, zf⟩)
