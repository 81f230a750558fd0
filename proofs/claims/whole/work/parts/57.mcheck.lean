/-! the model: check, like -/
def mtlF (lw : LawT) (n : Nat) (B : Nat → Int32) (k : Nat) : Int32 := if k % 2 = 0 then mHours lw n B (k / 2 + 1) 3 else fld (fun s i => s + mHours lw n B (k / 2 + 1) (26 + 5 * i + 4)) 0 n
def mCheck (lw : LawT) (B : Nat → Int32) (n h : Nat) (kept : Int32) (w : Nat → Int32) (wt : Nat) (v : Int32) : Int32 := if 1 ≤ v ∧ v ≤ 30 then (if kept = 0 then NOi else chkF w (mtlF lw n B) wt (2 * min v.toNatClampNeg (9999 - h)) (2 * min v.toNatClampNeg (9999 - h)) 0) else BADi
def PKc (S : Sg) (mi : Mem) (o : Nat) (v : Int32) : Pt3 := fun r S' m => r = some (.int v) ∧ S' = S ∧ m o = upd (mi o) 33 0 ∧ m (o + 1) = mi (o + 1) ∧ ∀ a, a ≠ o → a ≠ o + 1 → a ≠ o + 3 → a ≠ o + 12 → a ≠ o + 13 → m a = mi a
theorem mul2 (k : Nat) : (2 : Int32) * nI k = nI (2 * k) := by show nI 2 * nI k = _; rw [nI_mul]
theorem dX7_check_0 : decode fX7_check.2.1 0 = .ok (.aload_n 0, 1) := by decide +kernel
theorem dX7_check_1 : decode fX7_check.2.1 1 = .ok (.getfield 273, 3) := by decide +kernel
theorem dX7_check_4 : decode fX7_check.2.1 4 = .ok (.istore_n 2, 1) := by decide +kernel
theorem dX7_check_5 : decode fX7_check.2.1 5 = .ok (.aload_n 0, 1) := by decide +kernel
theorem dX7_check_6 : decode fX7_check.2.1 6 = .ok (.iconst 0, 1) := by decide +kernel
theorem dX7_check_7 : decode fX7_check.2.1 7 = .ok (.putfield 273, 3) := by decide +kernel
theorem dX7_check_10 : decode fX7_check.2.1 10 = .ok (.iload_n 1, 1) := by decide +kernel
theorem dX7_check_11 : decode fX7_check.2.1 11 = .ok (.iconst 1, 1) := by decide +kernel
theorem dX7_check_12 : decode fX7_check.2.1 12 = .ok (.bipush 30, 2) := by decide +kernel
theorem dX7_check_14 : decode fX7_check.2.1 14 = .ok (.invokestatic 78, 3) := by decide +kernel
theorem dX7_check_17 : decode fX7_check.2.1 17 = .ok (.ifCond .ne 6, 3) := by decide +kernel
theorem dX7_check_20 : decode fX7_check.2.1 20 = .ok (.ldc 127, 2) := by decide +kernel
theorem dX7_check_22 : decode fX7_check.2.1 22 = .ok (.ireturn, 1) := by decide +kernel
theorem dX7_check_23 : decode fX7_check.2.1 23 = .ok (.aload_n 0, 1) := by decide +kernel
theorem dX7_check_24 : decode fX7_check.2.1 24 = .ok (.getfield 276, 3) := by decide +kernel
theorem dX7_check_27 : decode fX7_check.2.1 27 = .ok (.ifCond .ne 7, 3) := by decide +kernel
theorem dX7_check_30 : decode fX7_check.2.1 30 = .ok (.ldc_w 272, 3) := by decide +kernel
theorem dX7_check_33 : decode fX7_check.2.1 33 = .ok (.ireturn, 1) := by decide +kernel
theorem dX7_check_34 : decode fX7_check.2.1 34 = .ok (.aload_n 0, 1) := by decide +kernel
theorem dX7_check_35 : decode fX7_check.2.1 35 = .ok (.getfield 9, 3) := by decide +kernel
theorem dX7_check_38 : decode fX7_check.2.1 38 = .ok (.aload_n 0, 1) := by decide +kernel
theorem dX7_check_39 : decode fX7_check.2.1 39 = .ok (.getfield 16, 3) := by decide +kernel
theorem dX7_check_42 : decode fX7_check.2.1 42 = .ok (.invokestatic 173, 3) := by decide +kernel
theorem dX7_check_45 : decode fX7_check.2.1 45 = .ok (.aload_n 0, 1) := by decide +kernel
theorem dX7_check_46 : decode fX7_check.2.1 46 = .ok (.getfield 13, 3) := by decide +kernel
theorem dX7_check_49 : decode fX7_check.2.1 49 = .ok (.aload_n 0, 1) := by decide +kernel
theorem dX7_check_50 : decode fX7_check.2.1 50 = .ok (.getfield 9, 3) := by decide +kernel
theorem dX7_check_53 : decode fX7_check.2.1 53 = .ok (.invokestatic 173, 3) := by decide +kernel
theorem dX7_check_56 : decode fX7_check.2.1 56 = .ok (.iconst 2, 1) := by decide +kernel
theorem dX7_check_57 : decode fX7_check.2.1 57 = .ok (.sipush 9999, 3) := by decide +kernel
theorem dX7_check_60 : decode fX7_check.2.1 60 = .ok (.aload_n 0, 1) := by decide +kernel
theorem dX7_check_61 : decode fX7_check.2.1 61 = .ok (.getfield 9, 3) := by decide +kernel
theorem dX7_check_64 : decode fX7_check.2.1 64 = .ok (.iconst 2, 1) := by decide +kernel
theorem dX7_check_65 : decode fX7_check.2.1 65 = .ok (.iaload, 1) := by decide +kernel
theorem dX7_check_66 : decode fX7_check.2.1 66 = .ok (.isub, 1) := by decide +kernel
theorem dX7_check_67 : decode fX7_check.2.1 67 = .ok (.iconst 0, 1) := by decide +kernel
theorem dX7_check_68 : decode fX7_check.2.1 68 = .ok (.iload_n 1, 1) := by decide +kernel
theorem dX7_check_69 : decode fX7_check.2.1 69 = .ok (.invokestatic 82, 3) := by decide +kernel
theorem dX7_check_72 : decode fX7_check.2.1 72 = .ok (.imul, 1) := by decide +kernel
theorem dX7_check_73 : decode fX7_check.2.1 73 = .ok (.istore_n 3, 1) := by decide +kernel
theorem dX7_check_74 : decode fX7_check.2.1 74 = .ok (.iconst 0, 1) := by decide +kernel
theorem dX7_check_75 : decode fX7_check.2.1 75 = .ok (.istore 4, 2) := by decide +kernel
theorem dX7_check_77 : decode fX7_check.2.1 77 = .ok (.iconst 0, 1) := by decide +kernel
theorem dX7_check_78 : decode fX7_check.2.1 78 = .ok (.istore 5, 2) := by decide +kernel
theorem dX7_check_80 : decode fX7_check.2.1 80 = .ok (.iconst 2, 1) := by decide +kernel
theorem dX7_check_81 : decode fX7_check.2.1 81 = .ok (.iload 5, 2) := by decide +kernel
theorem dX7_check_83 : decode fX7_check.2.1 83 = .ok (.imul, 1) := by decide +kernel
theorem dX7_check_84 : decode fX7_check.2.1 84 = .ok (.iload_n 3, 1) := by decide +kernel
theorem dX7_check_85 : decode fX7_check.2.1 85 = .ok (.if_icmp .ge 96, 3) := by decide +kernel
theorem dX7_check_88 : decode fX7_check.2.1 88 = .ok (.iload 4, 2) := by decide +kernel
theorem dX7_check_90 : decode fX7_check.2.1 90 = .ok (.iconst 2, 1) := by decide +kernel
theorem dX7_check_91 : decode fX7_check.2.1 91 = .ok (.iload 5, 2) := by decide +kernel
theorem dX7_check_93 : decode fX7_check.2.1 93 = .ok (.imul, 1) := by decide +kernel
theorem dX7_check_94 : decode fX7_check.2.1 94 = .ok (.if_icmp .ne 87, 3) := by decide +kernel
theorem dX7_check_97 : decode fX7_check.2.1 97 = .ok (.aload_n 0, 1) := by decide +kernel
theorem dX7_check_98 : decode fX7_check.2.1 98 = .ok (.invokevirtual 160, 3) := by decide +kernel
theorem dX7_check_101 : decode fX7_check.2.1 101 = .ok (.iload 4, 2) := by decide +kernel
theorem dX7_check_103 : decode fX7_check.2.1 103 = .ok (.iload 4, 2) := by decide +kernel
theorem dX7_check_105 : decode fX7_check.2.1 105 = .ok (.iload_n 2, 1) := by decide +kernel
theorem dX7_check_106 : decode fX7_check.2.1 106 = .ok (.if_icmp .ge 23, 3) := by decide +kernel
theorem dX7_check_109 : decode fX7_check.2.1 109 = .ok (.aload_n 0, 1) := by decide +kernel
theorem dX7_check_110 : decode fX7_check.2.1 110 = .ok (.getfield 75, 3) := by decide +kernel
theorem dX7_check_113 : decode fX7_check.2.1 113 = .ok (.iload 4, 2) := by decide +kernel
theorem dX7_check_115 : decode fX7_check.2.1 115 = .ok (.iaload, 1) := by decide +kernel
theorem dX7_check_116 : decode fX7_check.2.1 116 = .ok (.aload_n 0, 1) := by decide +kernel
theorem dX7_check_117 : decode fX7_check.2.1 117 = .ok (.getfield 9, 3) := by decide +kernel
theorem dX7_check_120 : decode fX7_check.2.1 120 = .ok (.iconst 3, 1) := by decide +kernel
theorem dX7_check_121 : decode fX7_check.2.1 121 = .ok (.iaload, 1) := by decide +kernel
theorem dX7_check_122 : decode fX7_check.2.1 122 = .ok (.if_icmp .ne 7, 3) := by decide +kernel
theorem dX7_check_125 : decode fX7_check.2.1 125 = .ok (.iconst 1, 1) := by decide +kernel
theorem dX7_check_126 : decode fX7_check.2.1 126 = .ok (.goto 4, 3) := by decide +kernel
theorem dX7_check_129 : decode fX7_check.2.1 129 = .ok (.iconst 0, 1) := by decide +kernel
theorem dX7_check_130 : decode fX7_check.2.1 130 = .ok (.iadd, 1) := by decide +kernel
theorem dX7_check_131 : decode fX7_check.2.1 131 = .ok (.istore 4, 2) := by decide +kernel
theorem dX7_check_133 : decode fX7_check.2.1 133 = .ok (.iload 4, 2) := by decide +kernel
theorem dX7_check_135 : decode fX7_check.2.1 135 = .ok (.iload 4, 2) := by decide +kernel
theorem dX7_check_137 : decode fX7_check.2.1 137 = .ok (.iconst 2, 1) := by decide +kernel
theorem dX7_check_138 : decode fX7_check.2.1 138 = .ok (.iload 5, 2) := by decide +kernel
theorem dX7_check_140 : decode fX7_check.2.1 140 = .ok (.imul, 1) := by decide +kernel
theorem dX7_check_141 : decode fX7_check.2.1 141 = .ok (.iconst 1, 1) := by decide +kernel
theorem dX7_check_142 : decode fX7_check.2.1 142 = .ok (.iadd, 1) := by decide +kernel
theorem dX7_check_143 : decode fX7_check.2.1 143 = .ok (.if_icmp .ne 28, 3) := by decide +kernel
theorem dX7_check_146 : decode fX7_check.2.1 146 = .ok (.iload 4, 2) := by decide +kernel
theorem dX7_check_148 : decode fX7_check.2.1 148 = .ok (.iload_n 2, 1) := by decide +kernel
theorem dX7_check_149 : decode fX7_check.2.1 149 = .ok (.if_icmp .ge 22, 3) := by decide +kernel
theorem dX7_check_152 : decode fX7_check.2.1 152 = .ok (.aload_n 0, 1) := by decide +kernel
theorem dX7_check_153 : decode fX7_check.2.1 153 = .ok (.getfield 75, 3) := by decide +kernel
theorem dX7_check_156 : decode fX7_check.2.1 156 = .ok (.iload 4, 2) := by decide +kernel
theorem dX7_check_158 : decode fX7_check.2.1 158 = .ok (.iaload, 1) := by decide +kernel
theorem dX7_check_159 : decode fX7_check.2.1 159 = .ok (.aload_n 0, 1) := by decide +kernel
theorem dX7_check_160 : decode fX7_check.2.1 160 = .ok (.iconst 4, 1) := by decide +kernel
theorem dX7_check_161 : decode fX7_check.2.1 161 = .ok (.invokevirtual 166, 3) := by decide +kernel
theorem dX7_check_164 : decode fX7_check.2.1 164 = .ok (.if_icmp .ne 7, 3) := by decide +kernel
theorem dX7_check_167 : decode fX7_check.2.1 167 = .ok (.iconst 1, 1) := by decide +kernel
theorem dX7_check_168 : decode fX7_check.2.1 168 = .ok (.goto 4, 3) := by decide +kernel
theorem dX7_check_171 : decode fX7_check.2.1 171 = .ok (.iconst 0, 1) := by decide +kernel
theorem dX7_check_172 : decode fX7_check.2.1 172 = .ok (.iadd, 1) := by decide +kernel
theorem dX7_check_173 : decode fX7_check.2.1 173 = .ok (.istore 4, 2) := by decide +kernel
theorem dX7_check_175 : decode fX7_check.2.1 175 = .ok (.iinc 5 1, 3) := by decide +kernel
theorem dX7_check_178 : decode fX7_check.2.1 178 = .ok (.goto (-98), 3) := by decide +kernel
theorem dX7_check_181 : decode fX7_check.2.1 181 = .ok (.aload_n 0, 1) := by decide +kernel
theorem dX7_check_182 : decode fX7_check.2.1 182 = .ok (.getfield 16, 3) := by decide +kernel
theorem dX7_check_185 : decode fX7_check.2.1 185 = .ok (.aload_n 0, 1) := by decide +kernel
theorem dX7_check_186 : decode fX7_check.2.1 186 = .ok (.getfield 9, 3) := by decide +kernel
theorem dX7_check_189 : decode fX7_check.2.1 189 = .ok (.invokestatic 173, 3) := by decide +kernel
theorem dX7_check_192 : decode fX7_check.2.1 192 = .ok (.iload 4, 2) := by decide +kernel
theorem dX7_check_194 : decode fX7_check.2.1 194 = .ok (.iload_n 2, 1) := by decide +kernel
theorem dX7_check_195 : decode fX7_check.2.1 195 = .ok (.if_icmp .ne 13, 3) := by decide +kernel
theorem dX7_check_198 : decode fX7_check.2.1 198 = .ok (.iload 4, 2) := by decide +kernel
theorem dX7_check_200 : decode fX7_check.2.1 200 = .ok (.iload_n 3, 1) := by decide +kernel
theorem dX7_check_201 : decode fX7_check.2.1 201 = .ok (.if_icmp .ne 7, 3) := by decide +kernel
theorem dX7_check_204 : decode fX7_check.2.1 204 = .ok (.iconst 0, 1) := by decide +kernel
theorem dX7_check_205 : decode fX7_check.2.1 205 = .ok (.goto 7, 3) := by decide +kernel
theorem dX7_check_208 : decode fX7_check.2.1 208 = .ok (.iconst 1, 1) := by decide +kernel
theorem dX7_check_209 : decode fX7_check.2.1 209 = .ok (.iload 4, 2) := by decide +kernel
theorem dX7_check_211 : decode fX7_check.2.1 211 = .ok (.iadd, 1) := by decide +kernel
theorem dX7_check_212 : decode fX7_check.2.1 212 = .ok (.ireturn, 1) := by decide +kernel
set_option maxRecDepth 100000 in
set_option maxHeartbeats 4000000 in
theorem ok_X7_check {X : Xb} {S : Sg} {mi : Mem} {o n t h wt : Nat} {B : Nat → Int32} {lw : LawT} {v : Int32} (hM : MdA S o) (hw : mi o 33 = nI wt) (hw60 : wt ≤ 60) (hk : mi o 3 = 0 ∨ (mi o 3 = 1 ∧ n ≤ 8 ∧ mi (o + 2) = B ∧ B 1 = nI n ∧ B 2 = nI h ∧ h ≤ 9999 ∧ B 5 = nI t ∧ t ≤ 14 ∧ MtOk B t ∧ lwM B 0 t = lw ∧ ∀ j, 1438 ≤ j → mi (o + 1) j = B j)) : Ok 7 0 0 fX7_check X [rf X o, .int v] S mi (PKc S mi o (mCheck lw B n h (mi o 3) (mi (o + 22)) wt v)) := by
  refine Ok.go [some (rf X o), some (.int v), none, none, none, none] (by decide) (by simp [Value.category]) (Nat.le_of_ble_eq_true rfl) rfl ?_
  obtain ⟨k_o, ⟨r_o_now, k_o_now⟩, ⟨r_o_image, k_o_image⟩, ⟨r_o_aside, k_o_aside⟩, ⟨r_o_seen, k_o_seen⟩, ⟨r_o_unlike, k_o_unlike⟩, ⟨r_o_tape, k_o_tape⟩, ⟨r_o_keys, k_o_keys⟩, ⟨r_o_keyAt, k_o_keyAt⟩, ⟨r_o_code, k_o_code⟩, ⟨r_o_waits, k_o_waits⟩, ⟨r_o_tested, k_o_tested⟩, ⟨r_o_stack, k_o_stack⟩, ⟨r_o_facts, k_o_facts⟩, ⟨r_o_sorts, k_o_sorts⟩, ⟨r_o_sizes, k_o_sizes⟩, ⟨r_o_cells, k_o_cells⟩, ⟨r_o_holds, k_o_holds⟩, ⟨r_o_holdsA, k_o_holdsA⟩, ⟨r_o_holdsB, k_o_holdsB⟩, ⟨r_o_heldCells, k_o_heldCells⟩, ⟨r_o_moved, k_o_moved⟩, ⟨r_o_tells, k_o_tells⟩⟩ := id hM
  have z : m_up mi o 33 0 o = upd (mi o) 33 0 := m_up_row _ _ _ _
  have z1 : m_up mi o 33 0 (o + 1) = mi (o + 1) := m_up_ne (by omega)
  have zf : ∀ a, a ≠ o → a ≠ o + 1 → a ≠ o + 3 → a ≠ o + 12 → a ≠ o + 13 → m_up mi o 33 0 a = mi a := fun a h1 _ _ _ _ => m_up_ne h1
  have z3 : m_up mi o 33 0 o 3 = mi o 3 := by simp [m_up]
  have go : ∀ q, q ≤ 30 → n ≤ 8 → mi (o + 2) = B → B 1 = nI n → B 5 = nI t → t ≤ 14 → MtOk B t → lwM B 0 t = lw → (∀ j, 1438 ≤ j → mi (o + 1) j = B j) → h ≤ 9999 → ∀ due, due = 2 * min q (9999 - h) → chkF (mi (o + 22)) (mtlF lw n B) wt due due 0 = mCheck lw B n h (mi o 3) (mi (o + 22)) wt v → MW X fX7_check (rmOf 7 0 0) 0 0 80 [some (rf X o), some (.int v), some (.int (nI wt)), some (.int (nI due)), some (.int (nI 0)), some (.int (nI 0))] [] S (m_cpy (m_cpy (m_up mi o 33 0) (o + 1) (o + 3) 0 0 1438) (o + 2) (o + 1) 0 0 1438) (mQ X 0 0 (PKc S mi o (mCheck lw B n h (mi o 3) (mi (o + 22)) wt v))) := by
    intro q q30 hn8 h2 hn ht ht14 hx hl hE h99 due hdue hV0
    have r1 : (m_cpy (m_cpy (m_up mi o 33 0) (o + 1) (o + 3) 0 0 1438) (o + 2) (o + 1) 0 0 1438) (o + 1) = B := by
      funext j
      by_cases c : j < 1438
      · simp only [m_cpy, true_and, Nat.zero_le, Nat.zero_add, c, if_true, Nat.sub_zero, show o + 2 ≠ o + 3 by omega, false_and, if_false]
        rw [m_up_ne (by omega), h2]
      · simp only [m_cpy, Nat.zero_add, c, and_false, if_false]
        rw [m_up_ne (by omega)]; exact hE j (by omega)
    have r3 : ∀ j, j < 1438 → (m_cpy (m_cpy (m_up mi o 33 0) (o + 1) (o + 3) 0 0 1438) (o + 2) (o + 1) 0 0 1438) (o + 3) j = mi (o + 1) j := fun j hj => by
      simp only [m_cpy, true_and, Nat.zero_le, Nat.zero_add, hj, if_true, Nat.sub_zero, show o + 3 ≠ o + 1 by omega, false_and, if_false]
      rw [m_up_ne (by omega)]
    have ra : ∀ a, a ≠ o + 1 → a ≠ o + 3 → (m_cpy (m_cpy (m_up mi o 33 0) (o + 1) (o + 3) 0 0 1438) (o + 2) (o + 1) 0 0 1438) a = m_up mi o 33 0 a := fun a g1 g2 => by
      funext j
      simp only [m_cpy, g1, g2, false_and, if_false]
    generalize (m_cpy (m_cpy (m_up mi o 33 0) (o + 1) (o + 3) 0 0 1438) (o + 2) (o + 1) 0 0 1438) = M2 at r1 r3 ra
    have s181 : ∀ r (u : Int32) m, r ≤ 62 → FrM o M2 m → tail66 B (m (o + 1)) → (if r = wt ∧ r = due then 0 else nI (1 + r)) = mCheck lw B n h (mi o 3) (mi (o + 22)) wt v → MW X fX7_check (rmOf 7 0 0) 0 0 181 [some (rf X o), some (.int v), some (.int (nI wt)), some (.int (nI due)), some (.int (nI r)), some (.int u)] [] S m (mQ X 0 0 (PKc S mi o (mCheck lw B n h (mi o 3) (mi (o + 22)) wt v))) := by
      intro r u m hr hF tl hR
      have p0 : m_cpy m (o + 3) (o + 1) 0 0 1438 o = upd (mi o) 33 0 := by
        rw [← z, ← ra o (by omega) (by omega), ← hF o (by omega) (by omega) (by omega)]
        funext j
        simp only [m_cpy, show o ≠ o + 1 by omega, false_and, if_false]
      have p1 : m_cpy m (o + 3) (o + 1) 0 0 1438 (o + 1) = mi (o + 1) := by
        funext j
        by_cases c : j < 1438
        · simp only [m_cpy, true_and, Nat.zero_le, Nat.zero_add, c, if_true, Nat.sub_zero]
          rw [hF (o + 3) (by omega) (by omega) (by omega)]; exact r3 j c
        · simp only [m_cpy, Nat.zero_add, c, and_false, if_false]
          rw [tl j (by omega)]; exact (hE j (by omega)).symm
      have p2 : ∀ a, a ≠ o → a ≠ o + 1 → a ≠ o + 3 → a ≠ o + 12 → a ≠ o + 13 → m_cpy m (o + 3) (o + 1) 0 0 1438 a = mi a := fun a g0 g1 g2 g3 g4 => by
        funext j
        simp only [m_cpy, g1, false_and, if_false]
        rw [hF a g1 g3 g4, ra a g1 g2, m_up_ne g0]
      refine mw_aload_n dX7_check_181 rfl ?_
      refine mw_getr dX7_check_182 fl_X7_16 rfl (by assumption) (by assumption) ?_
      refine mw_aload_n dX7_check_185 rfl ?_
      refine mw_getr dX7_check_186 fl_X7_9 rfl (by assumption) (by assumption) ?_
      refine mw_cSV (g := fX7_copyAll) dX7_check_189 ml_X7_173 mfX7_copyAll (ok_X7_copyAll k_o_aside k_o_now (by omega)) rfl rfl (Nat.le_of_ble_eq_true rfl) ⟨by decide, by decide⟩ ⟨by decide, by decide⟩ ?_
      refine mw_iload dX7_check_192 rfl ?_
      refine mw_iload_n dX7_check_194 rfl ?_
      refine mw_icmp_ne (tgt := 208) dX7_check_195 (by decide) (fun h195 => ?_) (fun h195 => ?_)
      · skip
        refine mw_iconst (v := 1) dX7_check_208 (by decide) ?_
        refine mw_iload dX7_check_209 rfl ?_
        refine mw_iadd dX7_check_211 ?_
        exact mw_iret dX7_check_212 rfl (by decide) (by decide) (by first | (have q1 := (nI_eq (by omega) (by omega)).mp h201; rw [if_pos (And.intro ((nI_eq (by omega) (by omega)).mp h195) q1)] at hR; exact ⟨by rw [← hR], rfl, p0, p1, p2⟩) | (have q1 := h201; rw [if_neg (fun g => q1 (by rw [g.2]))] at hR; exact ⟨by rw [← hR, one_add], rfl, p0, p1, p2⟩) | (rw [if_neg (fun g => h195 (by rw [g.1]))] at hR; exact ⟨by rw [← hR, one_add], rfl, p0, p1, p2⟩) | fail "leaf")
      · skip
        refine mw_iload dX7_check_198 rfl ?_
        refine mw_iload_n dX7_check_200 rfl ?_
        refine mw_icmp_ne (tgt := 208) dX7_check_201 (by decide) (fun h201 => ?_) (fun h201 => ?_)
        · skip
          refine mw_iconst (v := 1) dX7_check_208 (by decide) ?_
          refine mw_iload dX7_check_209 rfl ?_
          refine mw_iadd dX7_check_211 ?_
          exact mw_iret dX7_check_212 rfl (by decide) (by decide) (by first | (have q1 := (nI_eq (by omega) (by omega)).mp h201; rw [if_pos (And.intro ((nI_eq (by omega) (by omega)).mp h195) q1)] at hR; exact ⟨by rw [← hR], rfl, p0, p1, p2⟩) | (have q1 := h201; rw [if_neg (fun g => q1 (by rw [g.2]))] at hR; exact ⟨by rw [← hR, one_add], rfl, p0, p1, p2⟩) | (rw [if_neg (fun g => h195 (by rw [g.1]))] at hR; exact ⟨by rw [← hR, one_add], rfl, p0, p1, p2⟩) | fail "leaf")
        · skip
          refine mw_iconst (v := 0) dX7_check_204 (by decide) ?_
          refine mw_goto (tgt := 212) dX7_check_205 (by decide) ?_
          exact mw_iret dX7_check_212 rfl (by decide) (by decide) (by first | (have q1 := (nI_eq (by omega) (by omega)).mp h201; rw [if_pos (And.intro ((nI_eq (by omega) (by omega)).mp h195) q1)] at hR; exact ⟨by rw [← hR], rfl, p0, p1, p2⟩) | (have q1 := h201; rw [if_neg (fun g => q1 (by rw [g.2]))] at hR; exact ⟨by rw [← hR, one_add], rfl, p0, p1, p2⟩) | (rw [if_neg (fun g => h195 (by rw [g.1]))] at hR; exact ⟨by rw [← hR, one_add], rfl, p0, p1, p2⟩) | fail "leaf")
    have s80x : ∀ r k m, r ≤ 62 → k ≤ 61 → r ≠ 2 * k → FrM o M2 m → tail66 B (m (o + 1)) → (if r = wt ∧ r = due then 0 else nI (1 + r)) = mCheck lw B n h (mi o 3) (mi (o + 22)) wt v → MW X fX7_check (rmOf 7 0 0) 0 0 80 [some (rf X o), some (.int v), some (.int (nI wt)), some (.int (nI due)), some (.int (nI r)), some (.int (nI k))] [] S m (mQ X 0 0 (PKc S mi o (mCheck lw B n h (mi o 3) (mi (o + 22)) wt v))) := by
      intro r k m hr hk61 hne hF tl hR
      refine mw_iconst (v := 2) dX7_check_80 (by decide) ?_
      refine mw_iload dX7_check_81 rfl ?_
      refine mw_imul dX7_check_83 ?_
      rw [mul2]
      refine mw_iload_n dX7_check_84 rfl ?_
      refine mw_icmp_ge (tgt := 181) dX7_check_85 (by decide) (fun h85 => ?_) (fun h85 => ?_)
      · skip
        exact s181 r _ m hr hF tl hR
      · skip
        refine mw_iload dX7_check_88 rfl ?_
        refine mw_iconst (v := 2) dX7_check_90 (by decide) ?_
        refine mw_iload dX7_check_91 rfl ?_
        refine mw_imul dX7_check_93 ?_
        rw [mul2]
        refine mw_icmp_ne (tgt := 181) dX7_check_94 (by decide) (fun h94 => ?_) (fun h94 => ?_)
        · skip
          exact s181 r _ m hr hF tl hR
        · skip
          exact absurd ((nI_eq (by omega) (by omega)).mp h94) hne
    have lp : ∀ f k m, 2 * f + 2 * k = due → 2 * k ≤ wt → m (o + 1) = mHours lw n B k → FrM o M2 m → chkF (mi (o + 22)) (mtlF lw n B) wt due (2 * f) (2 * k) = mCheck lw B n h (mi o 3) (mi (o + 22)) wt v → MW X fX7_check (rmOf 7 0 0) 0 0 80 [some (rf X o), some (.int v), some (.int (nI wt)), some (.int (nI due)), some (.int (nI (2 * k))), some (.int (nI k))] [] S m (mQ X 0 0 (PKc S mi o (mCheck lw B n h (mi o 3) (mi (o + 22)) wt v))) := by
      intro f
      induction f with
      | zero =>
        intro k m hk hkw hm hF hV
        have tl : tail66 B (m (o + 1)) := by rw [hm]; exact mHours_hi hn8 k
        simp only [Nat.mul_zero, chkF] at hV
        refine mw_iconst (v := 2) dX7_check_80 (by decide) ?_
        refine mw_iload dX7_check_81 rfl ?_
        refine mw_imul dX7_check_83 ?_
        rw [mul2]
        refine mw_iload_n dX7_check_84 rfl ?_
        refine mw_icmp_ge (tgt := 181) dX7_check_85 (by decide) (fun h85 => ?_) (fun h85 => ?_)
        · skip
          refine s181 (2 * k) _ m (by omega) hF tl ?_
          rw [← hV]
          by_cases c : due < wt
          · rw [if_neg (by omega), if_pos c, show 2 * k = due by omega]
          · rw [if_pos (by omega), if_neg c]
        · skip
          exact absurd (nI_le (show due ≤ 2 * k by omega) (by omega)) h85
      | succ f ih =>
        intro k m hk hkw hm hF hV
        rw [show 2 * (f + 1) = 2 * f + 1 + 1 by omega] at hV
        simp only [chkF] at hV
        have e1 : m (o + 1) 1 = nI n := by rw [hm, mHours_lo (by decide) (by decide) (by decide) (by decide) (by decide) (by decide), hn]
        have e5 : m (o + 1) 5 = nI t := by rw [hm, mHours_lo (by decide) (by decide) (by decide) (by decide) (by decide) (by decide), ht]
        have tl : tail66 B (m (o + 1)) := by rw [hm]; exact mHours_hi hn8 k
        have el : lwM (m (o + 1)) 0 t = lw := (lwM_congr tl).trans hl
        have t1 : mtlF lw n B (2 * k) = mHours lw n B (k + 1) 3 := by rw [mtlF, if_pos (by omega), show 2 * k / 2 + 1 = k + 1 by omega]
        have t2 : mtlF lw n B (2 * k + 1) = fld (fun s i => s + mHours lw n B (k + 1) (26 + 5 * i + 4)) 0 n := by rw [mtlF, if_neg (by omega), show (2 * k + 1) / 2 + 1 = k + 1 by omega]
        have s133 : ∀ m, m (o + 1) = mHours lw n B (k + 1) → FrM o M2 m → ∀ r, ((r = 2 * k ∧ nI (1 + 2 * k) = mCheck lw B n h (mi o 3) (mi (o + 22)) wt v) ∨ (r = 2 * k + 1 ∧ (if wt ≤ 2 * k + 1 ∨ mi (o + 22) (2 * k + 1) ≠ mtlF lw n B (2 * k + 1) then nI (1 + (2 * k + 1)) else chkF (mi (o + 22)) (mtlF lw n B) wt due (2 * f) (2 * k + 1 + 1)) = mCheck lw B n h (mi o 3) (mi (o + 22)) wt v)) → MW X fX7_check (rmOf 7 0 0) 0 0 133 [some (rf X o), some (.int v), some (.int (nI wt)), some (.int (nI due)), some (.int (nI r)), some (.int (nI k))] [] S m (mQ X 0 0 (PKc S mi o (mCheck lw B n h (mi o 3) (mi (o + 22)) wt v))) := by
          intro m hm hF r hr
          have tl : tail66 B (m (o + 1)) := by rw [hm]; exact mHours_hi hn8 (k + 1)
          have e1 : m (o + 1) 1 = nI n := by rw [hm, mHours_lo (by decide) (by decide) (by decide) (by decide) (by decide) (by decide), hn]
          have e22 : m (o + 22) = mi (o + 22) := by rw [hF (o + 22) (by omega) (by omega) (by omega), ra (o + 22) (by omega) (by omega), m_up_ne (by omega)]
          have eo : fld (fun s i => s + m (o + 1) (26 + 5 * i + 4)) 0 n = mtlF lw n B (2 * k + 1) := by rw [t2, hm]
          have e21 : nI (2 * k) + 1 = nI (2 * k + 1) := by rw [nI_1]
          have a0 : nI r + 0 = nI r := Int32.add_zero _
          rcases hr with ⟨rfl, hR⟩ | ⟨rfl, hR⟩
          · skip
            refine mw_iload dX7_check_133 rfl ?_
            refine mw_iload dX7_check_135 rfl ?_
            refine mw_iconst (v := 2) dX7_check_137 (by decide) ?_
            refine mw_iload dX7_check_138 rfl ?_
            refine mw_imul dX7_check_140 ?_
            rw [mul2]
            refine mw_iconst (v := 1) dX7_check_141 (by decide) ?_
            refine mw_iadd dX7_check_142 ?_
            rw [e21]
            refine mw_icmp_ne (tgt := 171) dX7_check_143 (by decide) (fun h143 => ?_) (fun h143 => ?_)
            · skip
              refine mw_iconst (v := 0) dX7_check_171 (by decide) ?_
              refine mw_iadd dX7_check_172 ?_
              rw [a0]
              refine mw_istore dX7_check_173 (by decide) ?_
              refine mw_iincK (k := k) dX7_check_175 rfl rfl (by decide) ?_
              refine mw_goto (tgt := 80) dX7_check_178 (by decide) ?_
              exact s80x (2 * k) (k + 1) m (by omega) (by omega) (by omega) hF tl (by rw [if_neg (by omega)]; exact hR)
            · skip
              exact absurd ((nI_eq (by omega) (by omega)).mp h143) (by omega)
          · skip
            refine mw_iload dX7_check_133 rfl ?_
            refine mw_iload dX7_check_135 rfl ?_
            refine mw_iconst (v := 2) dX7_check_137 (by decide) ?_
            refine mw_iload dX7_check_138 rfl ?_
            refine mw_imul dX7_check_140 ?_
            rw [mul2]
            refine mw_iconst (v := 1) dX7_check_141 (by decide) ?_
            refine mw_iadd dX7_check_142 ?_
            rw [e21]
            refine mw_icmp_ne (tgt := 171) dX7_check_143 (by decide) (fun h143 => ?_) (fun h143 => ?_)
            · skip
              refine mw_iconst (v := 0) dX7_check_171 (by decide) ?_
              refine mw_iadd dX7_check_172 ?_
              first
                | rw [a0]
                | rw [nI_1]
                | fail "b173"
              refine mw_istore dX7_check_173 (by decide) ?_
              refine mw_iincK (k := k) dX7_check_175 rfl rfl (by decide) ?_
              refine mw_goto (tgt := 80) dX7_check_178 (by decide) ?_
              first
                | exact absurd rfl h143
                | (have q1 : nI wt ≤ nI (2 * k + 1) := h149; rw [if_pos (Or.inl ((nI_leI (by omega) (by omega)).mp q1))] at hR; exact s80x (2 * k + 1) (k + 1) m (by omega) (by omega) (by omega) hF tl (by rw [if_neg (by omega)]; exact hR))
                | (have q1 : ¬ mi (o + 22) (2 * k + 1) = mtlF lw n B (2 * k + 1) := h164; rw [if_pos (Or.inr q1)] at hR; exact s80x (2 * k + 1) (k + 1) m (by omega) (by omega) (by omega) hF tl (by rw [if_neg (by omega)]; exact hR))
                | (have q1 : mi (o + 22) (2 * k + 1) = mtlF lw n B (2 * k + 1) := h164; have q2 : 2 * k + 1 < wt := (nI_ltI (by omega) (by omega)).mp (Int32.not_le.mp h149); rw [if_neg (fun g => g.elim (fun a => by omega) (fun b => b q1))] at hR; exact ih (k + 1) m (by omega) (by omega) hm hF hR)
                | fail "s80"
            · skip
              refine mw_iload dX7_check_146 rfl ?_
              refine mw_iload_n dX7_check_148 rfl ?_
              refine mw_icmp_ge (tgt := 171) dX7_check_149 (by decide) (fun h149 => ?_) (fun h149 => ?_)
              · skip
                refine mw_iconst (v := 0) dX7_check_171 (by decide) ?_
                refine mw_iadd dX7_check_172 ?_
                first
                  | rw [a0]
                  | rw [nI_1]
                  | fail "b173"
                refine mw_istore dX7_check_173 (by decide) ?_
                refine mw_iincK (k := k) dX7_check_175 rfl rfl (by decide) ?_
                refine mw_goto (tgt := 80) dX7_check_178 (by decide) ?_
                first
                  | exact absurd rfl h143
                  | (have q1 : nI wt ≤ nI (2 * k + 1) := h149; rw [if_pos (Or.inl ((nI_leI (by omega) (by omega)).mp q1))] at hR; exact s80x (2 * k + 1) (k + 1) m (by omega) (by omega) (by omega) hF tl (by rw [if_neg (by omega)]; exact hR))
                  | (have q1 : ¬ mi (o + 22) (2 * k + 1) = mtlF lw n B (2 * k + 1) := h164; rw [if_pos (Or.inr q1)] at hR; exact s80x (2 * k + 1) (k + 1) m (by omega) (by omega) (by omega) hF tl (by rw [if_neg (by omega)]; exact hR))
                  | (have q1 : mi (o + 22) (2 * k + 1) = mtlF lw n B (2 * k + 1) := h164; have q2 : 2 * k + 1 < wt := (nI_ltI (by omega) (by omega)).mp (Int32.not_le.mp h149); rw [if_neg (fun g => g.elim (fun a => by omega) (fun b => b q1))] at hR; exact ih (k + 1) m (by omega) (by omega) hm hF hR)
                  | fail "s80"
              · skip
                refine mw_aload_n dX7_check_152 rfl ?_
                refine mw_getr dX7_check_153 fl_X7_75 rfl (by assumption) (by assumption) ?_
                refine mw_iload dX7_check_156 rfl ?_
                refine mw_ialdK (k := 2 * k + 1) dX7_check_158 (by assumption) (rfl) (by omega) (by decide) ?_
                rw [e22]
                refine mw_aload_n dX7_check_159 rfl ?_
                refine mw_iconst (v := 4) dX7_check_160 (by decide) ?_
                refine mw_cVI (g := fX7_sumOf) dX7_check_161 ml_X7_166 mfX7_sumOf (ok_X7_sumOf (w := 4) hM e1 hn8 (by decide)) (by assumption) rfl rfl (Nat.le_of_ble_eq_true rfl) ⟨by decide, by decide⟩ ⟨by decide, by decide⟩ ?_
                rw [eo]
                refine mw_icmp_ne (tgt := 171) dX7_check_164 (by decide) (fun h164 => ?_) (fun h164 => ?_)
                · skip
                  refine mw_iconst (v := 0) dX7_check_171 (by decide) ?_
                  refine mw_iadd dX7_check_172 ?_
                  first
                    | rw [a0]
                    | rw [nI_1]
                    | fail "b173"
                  refine mw_istore dX7_check_173 (by decide) ?_
                  refine mw_iincK (k := k) dX7_check_175 rfl rfl (by decide) ?_
                  refine mw_goto (tgt := 80) dX7_check_178 (by decide) ?_
                  first
                    | exact absurd rfl h143
                    | (have q1 : nI wt ≤ nI (2 * k + 1) := h149; rw [if_pos (Or.inl ((nI_leI (by omega) (by omega)).mp q1))] at hR; exact s80x (2 * k + 1) (k + 1) m (by omega) (by omega) (by omega) hF tl (by rw [if_neg (by omega)]; exact hR))
                    | (have q1 : ¬ mi (o + 22) (2 * k + 1) = mtlF lw n B (2 * k + 1) := h164; rw [if_pos (Or.inr q1)] at hR; exact s80x (2 * k + 1) (k + 1) m (by omega) (by omega) (by omega) hF tl (by rw [if_neg (by omega)]; exact hR))
                    | (have q1 : mi (o + 22) (2 * k + 1) = mtlF lw n B (2 * k + 1) := h164; have q2 : 2 * k + 1 < wt := (nI_ltI (by omega) (by omega)).mp (Int32.not_le.mp h149); rw [if_neg (fun g => g.elim (fun a => by omega) (fun b => b q1))] at hR; exact ih (k + 1) m (by omega) (by omega) hm hF hR)
                    | fail "s80"
                · skip
                  refine mw_iconst (v := 1) dX7_check_167 (by decide) ?_
                  refine mw_goto (tgt := 172) dX7_check_168 (by decide) ?_
                  refine mw_iadd dX7_check_172 ?_
                  first
                    | rw [a0]
                    | rw [nI_1]
                    | fail "b173"
                  refine mw_istore dX7_check_173 (by decide) ?_
                  refine mw_iincK (k := k) dX7_check_175 rfl rfl (by decide) ?_
                  refine mw_goto (tgt := 80) dX7_check_178 (by decide) ?_
                  first
                    | exact absurd rfl h143
                    | (have q1 : nI wt ≤ nI (2 * k + 1) := h149; rw [if_pos (Or.inl ((nI_leI (by omega) (by omega)).mp q1))] at hR; exact s80x (2 * k + 1) (k + 1) m (by omega) (by omega) (by omega) hF tl (by rw [if_neg (by omega)]; exact hR))
                    | (have q1 : ¬ mi (o + 22) (2 * k + 1) = mtlF lw n B (2 * k + 1) := h164; rw [if_pos (Or.inr q1)] at hR; exact s80x (2 * k + 1) (k + 1) m (by omega) (by omega) (by omega) hF tl (by rw [if_neg (by omega)]; exact hR))
                    | (have q1 : mi (o + 22) (2 * k + 1) = mtlF lw n B (2 * k + 1) := h164; have q2 : 2 * k + 1 < wt := (nI_ltI (by omega) (by omega)).mp (Int32.not_le.mp h149); rw [if_neg (fun g => g.elim (fun a => by omega) (fun b => b q1))] at hR; exact ih (k + 1) m (by omega) (by omega) hm hF hR)
                    | fail "s80"
        refine mw_iconst (v := 2) dX7_check_80 (by decide) ?_
        refine mw_iload dX7_check_81 rfl ?_
        refine mw_imul dX7_check_83 ?_
        rw [mul2]
        refine mw_iload_n dX7_check_84 rfl ?_
        refine mw_icmp_ge (tgt := 181) dX7_check_85 (by decide) (fun h85 => ?_) (fun h85 => ?_)
        · skip
          first
            | exact absurd h85 (nI_ge (by omega) (by omega))
            | exact absurd rfl h94
            | fail "stop"
        · skip
          refine mw_iload dX7_check_88 rfl ?_
          refine mw_iconst (v := 2) dX7_check_90 (by decide) ?_
          refine mw_iload dX7_check_91 rfl ?_
          refine mw_imul dX7_check_93 ?_
          rw [mul2]
          refine mw_icmp_ne (tgt := 181) dX7_check_94 (by decide) (fun h94 => ?_) (fun h94 => ?_)
          · skip
            first
              | exact absurd h85 (nI_ge (by omega) (by omega))
              | exact absurd rfl h94
              | fail "stop"
          · skip
            refine mw_aload_n dX7_check_97 rfl ?_
            refine mw_callV (g := fX7_hour) dX7_check_98 ml_X7_160 mfX7_hour (ok_X7_hour hM e1 hn8 e5 ht14 (hx.congr tl)) (by assumption) rfl rfl (Nat.le_of_ble_eq_true rfl) ⟨by decide, by decide⟩ ⟨by decide, by decide⟩ (fun r S2 mi2 hp => ?_)
            obtain ⟨rfl, e2, hm3, hf3⟩ := hp
            rw [e2]
            rw [el, hm] at hm3
            have e22 : mi2 (o + 22) = mi (o + 22) := by rw [hf3 (o + 22) (by omega) (by omega) (by omega), hF (o + 22) (by omega) (by omega) (by omega), ra (o + 22) (by omega) (by omega), m_up_ne (by omega)]
            have e3 : mi2 (o + 1) 3 = mtlF lw n B (2 * k) := by rw [hm3, t1]; rfl
            have a0 : nI (2 * k) + 0 = nI (2 * k) := Int32.add_zero _
            refine mw_iload dX7_check_101 rfl ?_
            refine mw_iload dX7_check_103 rfl ?_
            refine mw_iload_n dX7_check_105 rfl ?_
            refine mw_icmp_ge (tgt := 129) dX7_check_106 (by decide) (fun h106 => ?_) (fun h106 => ?_)
            · skip
              refine mw_iconst (v := 0) dX7_check_129 (by decide) ?_
              refine mw_iadd dX7_check_130 ?_
              first
                | rw [a0]
                | rw [nI_1]
                | fail "b131"
              refine mw_istore dX7_check_131 (by decide) ?_
              first
                | (have q1 : nI wt ≤ nI (2 * k) := h106; rw [if_pos (Or.inl ((nI_leI (by omega) (by omega)).mp q1))] at hV; exact s133 _ hm3 (hF.tr hf3) (2 * k) (Or.inl ⟨rfl, hV⟩))
                | (have q1 : ¬ mi (o + 22) (2 * k) = mtlF lw n B (2 * k) := h122; rw [if_pos (Or.inr q1)] at hV; exact s133 _ hm3 (hF.tr hf3) (2 * k) (Or.inl ⟨rfl, hV⟩))
                | (have q1 : mi (o + 22) (2 * k) = mtlF lw n B (2 * k) := h122; have q2 : 2 * k < wt := (nI_ltI (by omega) (by omega)).mp (Int32.not_le.mp h106); rw [if_neg (fun g => g.elim (fun a => by omega) (fun b => b q1))] at hV; exact s133 _ hm3 (hF.tr hf3) (2 * k + 1) (Or.inr ⟨rfl, hV⟩))
                | fail "stop"
            · skip
              refine mw_aload_n dX7_check_109 rfl ?_
              refine mw_getr dX7_check_110 fl_X7_75 rfl (by assumption) (by assumption) ?_
              refine mw_iload dX7_check_113 rfl ?_
              refine mw_ialdK (k := 2 * k) dX7_check_115 (by assumption) (rfl) (by omega) (by decide) ?_
              rw [e22]
              refine mw_aload_n dX7_check_116 rfl ?_
              refine mw_getr dX7_check_117 fl_X7_9 rfl (by assumption) (by assumption) ?_
              refine mw_iconst (v := 3) dX7_check_120 (by decide) ?_
              refine mw_ialdK (k := 3) dX7_check_121 (by assumption) (rfl) (by decide) (by decide) ?_
              rw [e3]
              refine mw_icmp_ne (tgt := 129) dX7_check_122 (by decide) (fun h122 => ?_) (fun h122 => ?_)
              · skip
                refine mw_iconst (v := 0) dX7_check_129 (by decide) ?_
                refine mw_iadd dX7_check_130 ?_
                first
                  | rw [a0]
                  | rw [nI_1]
                  | fail "b131"
                refine mw_istore dX7_check_131 (by decide) ?_
                first
                  | (have q1 : nI wt ≤ nI (2 * k) := h106; rw [if_pos (Or.inl ((nI_leI (by omega) (by omega)).mp q1))] at hV; exact s133 _ hm3 (hF.tr hf3) (2 * k) (Or.inl ⟨rfl, hV⟩))
                  | (have q1 : ¬ mi (o + 22) (2 * k) = mtlF lw n B (2 * k) := h122; rw [if_pos (Or.inr q1)] at hV; exact s133 _ hm3 (hF.tr hf3) (2 * k) (Or.inl ⟨rfl, hV⟩))
                  | (have q1 : mi (o + 22) (2 * k) = mtlF lw n B (2 * k) := h122; have q2 : 2 * k < wt := (nI_ltI (by omega) (by omega)).mp (Int32.not_le.mp h106); rw [if_neg (fun g => g.elim (fun a => by omega) (fun b => b q1))] at hV; exact s133 _ hm3 (hF.tr hf3) (2 * k + 1) (Or.inr ⟨rfl, hV⟩))
                  | fail "stop"
              · skip
                refine mw_iconst (v := 1) dX7_check_125 (by decide) ?_
                refine mw_goto (tgt := 130) dX7_check_126 (by decide) ?_
                refine mw_iadd dX7_check_130 ?_
                first
                  | rw [a0]
                  | rw [nI_1]
                  | fail "b131"
                refine mw_istore dX7_check_131 (by decide) ?_
                first
                  | (have q1 : nI wt ≤ nI (2 * k) := h106; rw [if_pos (Or.inl ((nI_leI (by omega) (by omega)).mp q1))] at hV; exact s133 _ hm3 (hF.tr hf3) (2 * k) (Or.inl ⟨rfl, hV⟩))
                  | (have q1 : ¬ mi (o + 22) (2 * k) = mtlF lw n B (2 * k) := h122; rw [if_pos (Or.inr q1)] at hV; exact s133 _ hm3 (hF.tr hf3) (2 * k) (Or.inl ⟨rfl, hV⟩))
                  | (have q1 : mi (o + 22) (2 * k) = mtlF lw n B (2 * k) := h122; have q2 : 2 * k < wt := (nI_ltI (by omega) (by omega)).mp (Int32.not_le.mp h106); rw [if_neg (fun g => g.elim (fun a => by omega) (fun b => b q1))] at hV; exact s133 _ hm3 (hF.tr hf3) (2 * k + 1) (Or.inr ⟨rfl, hV⟩))
                  | fail "stop"
    exact lp (min q (9999 - h)) 0 M2 (by omega) (by omega) r1 (FrM.rf _ _) (by rw [← hdue]; exact hV0)
  refine mw_aload_n dX7_check_0 rfl ?_
  refine mw_geti dX7_check_1 fl_X7_273 rfl (by assumption) ?_
  rw [hw]
  refine mw_istN 2 dX7_check_4 rfl (by decide) ?_
  refine mw_aload_n dX7_check_5 rfl ?_
  refine mw_iconst (v := 0) dX7_check_6 (by decide) ?_
  refine mw_puti dX7_check_7 fl_X7_273 ft_7_33 rfl (rfl) rfl (by assumption) ?_
  refine mw_iload_n dX7_check_10 rfl ?_
  refine mw_iconst (v := 1) dX7_check_11 (by decide) ?_
  refine mw_bipush (v := 30) dX7_check_12 (by decide) ?_
  refine mw_cSI (g := fX7_in) dX7_check_14 ml_X7_78 mfX7_in (ok_X7_in) rfl rfl (Nat.le_of_ble_eq_true rfl) ⟨by decide, by decide⟩ ⟨by decide, by decide⟩ ?_
  refine mw_if_neB (tgt := 23) dX7_check_17 (by decide) (fun h17 => ?_) (fun h17 => ?_)
  · skip
    refine mw_aload_n dX7_check_23 rfl ?_
    refine mw_geti dX7_check_24 fl_X7_276 rfl (by assumption) ?_
    rw [z3]
    refine mw_if_ne (tgt := 34) dX7_check_27 (by decide) (fun h27 => ?_) (fun h27 => ?_)
    · skip
      obtain ⟨h1, hn8, h2, hn, hh, h99, ht, ht14, hx, hl, hE⟩ := hk.resolve_left h27
      obtain ⟨q, q30, hv⟩ := in130 h17
      have ev : v.toNatClampNeg = q := by rw [hv, nI_clamp (by omega)]
      have e2 : (m_cpy (m_cpy (m_up mi o 33 0) (o + 1) (o + 3) 0 0 1438) (o + 2) (o + 1) 0 0 1438) (o + 1) 2 = nI h := by { simp only [m_cpy, true_and, Nat.zero_le, Nat.zero_add, show (2 : Nat) < 1438 by decide, if_true, Nat.sub_zero, show o + 2 ≠ o + 3 by omega, false_and, if_false]; rw [m_up_ne (by omega), h2, hh] }
      refine mw_aload_n dX7_check_34 rfl ?_
      refine mw_getr dX7_check_35 fl_X7_9 rfl (by assumption) (by assumption) ?_
      refine mw_aload_n dX7_check_38 rfl ?_
      refine mw_getr dX7_check_39 fl_X7_16 rfl (by assumption) (by assumption) ?_
      refine mw_cSV (g := fX7_copyAll) dX7_check_42 ml_X7_173 mfX7_copyAll (ok_X7_copyAll k_o_now k_o_aside (by omega)) rfl rfl (Nat.le_of_ble_eq_true rfl) ⟨by decide, by decide⟩ ⟨by decide, by decide⟩ ?_
      refine mw_aload_n dX7_check_45 rfl ?_
      refine mw_getr dX7_check_46 fl_X7_13 rfl (by assumption) (by assumption) ?_
      refine mw_aload_n dX7_check_49 rfl ?_
      refine mw_getr dX7_check_50 fl_X7_9 rfl (by assumption) (by assumption) ?_
      refine mw_cSV (g := fX7_copyAll) dX7_check_53 ml_X7_173 mfX7_copyAll (ok_X7_copyAll k_o_image k_o_now (by omega)) rfl rfl (Nat.le_of_ble_eq_true rfl) ⟨by decide, by decide⟩ ⟨by decide, by decide⟩ ?_
      refine mw_iconst (v := 2) dX7_check_56 (by decide) ?_
      refine mw_sipush (v := 9999) dX7_check_57 (by decide) ?_
      refine mw_aload_n dX7_check_60 rfl ?_
      refine mw_getr dX7_check_61 fl_X7_9 rfl (by assumption) (by assumption) ?_
      refine mw_iconst (v := 2) dX7_check_64 (by decide) ?_
      refine mw_ialdK (k := 2) dX7_check_65 (by assumption) (rfl) (by decide) (by decide) ?_
      rw [e2]
      refine mw_isub dX7_check_66 ?_
      refine mw_iconst (v := 0) dX7_check_67 (by decide) ?_
      refine mw_iload_n dX7_check_68 rfl ?_
      refine mw_cSI (g := fX7_within) dX7_check_69 ml_X7_82 mfX7_within (ok_X7_within) rfl rfl (Nat.le_of_ble_eq_true rfl) ⟨by decide, by decide⟩ ⟨by decide, by decide⟩ ?_
      rw [show (9999 : Int32) - nI h = nI (9999 - h) from pk_sub (a := 9999) h99, hv, clamp_nI (by omega) (by omega)]
      refine mw_imul dX7_check_72 ?_
      rw [mul2, ← hv]
      refine mw_istN 3 dX7_check_73 rfl (by decide) ?_
      refine mw_iconst (v := 0) dX7_check_74 (by decide) ?_
      refine mw_istore dX7_check_75 (by decide) ?_
      refine mw_iconst (v := 0) dX7_check_77 (by decide) ?_
      refine mw_istore dX7_check_78 (by decide) ?_
      exact MW.sub (by simp [lsub, nI_0]) (go q q30 hn8 h2 hn ht ht14 hx hl hE h99 _ rfl (by rw [mCheck, if_pos h17, if_neg h27, ev]))
    · skip
      refine mw_ldcw dX7_check_30 cn_X7_272 ?_
      exact mw_iret dX7_check_33 rfl (by decide) (by decide) (by rw [mCheck, if_pos h17, if_pos h27]; exact ⟨rfl, rfl, z, z1, zf⟩)
  · skip
    refine mw_ldc dX7_check_20 cn_X7_127 ?_
    exact mw_iret dX7_check_22 rfl (by decide) (by decide) (by rw [mCheck, if_neg h17]; exact ⟨rfl, rfl, z, z1, zf⟩)
