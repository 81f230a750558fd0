/-! the model: text -/
def rdM (b : Nat → Int32) (len : Nat) (v0 : Int32) (td : Nat → Int32) : Nat ⊕ (Nat × List Int32 × Nat) :=
  if keyM b (goS b len (0, 0, 0, v0, -1)) < 0 then .inl (goS b len (0, 0, 0, v0, -1)).2.1
  else if (esR b len (keyM b (goS b len (0, 0, 0, v0, -1))).toNatClampNeg 97 (goS b len (goS b len (0, 0, 0, v0, -1)), ([], 0, []), upd td 0 0, 0, 0, true)).1 = true then .inr ((keyM b (goS b len (0, 0, 0, v0, -1))).toNatClampNeg, (esR b len (keyM b (goS b len (0, 0, 0, v0, -1))).toNatClampNeg 97 (goS b len (goS b len (0, 0, 0, v0, -1)), ([], 0, []), upd td 0 0, 0, 0, true)).2.2.1.1, (esR b len (keyM b (goS b len (0, 0, 0, v0, -1))).toNatClampNeg 97 (goS b len (goS b len (0, 0, 0, v0, -1)), ([], 0, []), upd td 0 0, 0, 0, true)).2.2.1.2.1)
  else .inl (esR b len (keyM b (goS b len (0, 0, 0, v0, -1))).toNatClampNeg 97 (goS b len (goS b len (0, 0, 0, v0, -1)), ([], 0, []), upd td 0 0, 0, 0, true)).2.1.2.1
theorem keyM_in {b : Nat → Int32} {G : Gt} (h : ¬ keyM b G < 0) : ∃ k, k < 3 ∧ keyM b G = nI k ∧ 0 < G.1 := by
  have hN : ∀ i, i < 3 → 0 < sN i := by decide
  have kp : ∀ w, w < 3 → kmB b G w = true → 0 < G.1 := by
    intro w hw g
    unfold kmB at g
    split at g
    · rename_i q; have := hN w hw; omega
    · cases g
  unfold keyM at h ⊢
  split
  · rename_i g; exact ⟨0, by decide, rfl, kp 0 (by decide) g⟩
  · split
    · rename_i g; exact ⟨1, by decide, rfl, kp 1 (by decide) g⟩
    · split
      · rename_i g; exact ⟨2, by decide, rfl, kp 2 (by decide) g⟩
      · rename_i g1 g2 g3
        rw [if_neg g1, if_neg g2, if_neg g3] at h
        exact absurd (by decide) h
def txA (A : Nat → Int32) (c key : Nat) (C : List Int32) (t : Nat) : Nat → Int32 := upd (cpC (upd (upd A (66 + 2 * c) (nI (1000 * key + C.length))) (66 + 2 * c + 1) (nI t)) (fun k => C.getD k 0) (94 + 96 * c) C.length) 5 (nI (c + 1))
def FrX (o : Nat) (mi m : Mem) : Prop := (∀ a, a ≠ o → a ≠ o + 1 → a ≠ o + 9 → a ≠ o + 10 → a ≠ o + 11 → m a = mi a) ∧ ∀ j, (j < 7 ∨ 20 < j) → m o j = mi o j
def MxP (S : Sg) (mi : Mem) (o c : Nat) (A : Nat → Int32) (b : Nat → Int32) (len : Nat) : Pt3 := fun r S' m => S' = S ∧ m o 7 = 0 ∧ FrX o mi m ∧
  ((∃ ft, rdM b len (mi o 11) (mi (o + 11)) = .inl ft ∧ r = some (.int (-100 - nI ft)) ∧ m (o + 1) = A) ∨
   (∃ key C t, rdM b len (mi o 11) (mi (o + 11)) = .inr (key, C, t) ∧ key < 3 ∧ C.length ≤ 96 ∧ ((c = 14 ∧ r = some (.int FULLi) ∧ m (o + 1) = A) ∨ (c < 14 ∧ r = some (.int (nI c)) ∧ m (o + 1) = txA A c key C t))))
theorem FrX.e {o : Nat} {a b : Mem} (h : FrE o a b) : FrX o a b := ⟨fun i h1 _ h3 h4 h5 => h.1 i h1 h3 h4 h5, fun j h1 => h.2 j (by omega)⟩
theorem dX7_text_0 : decode fX7_text.2.1 0 = .ok (.aload_n 0, 1) := by decide +kernel
theorem dX7_text_1 : decode fX7_text.2.1 1 = .ok (.iconst 0, 1) := by decide +kernel
theorem dX7_text_2 : decode fX7_text.2.1 2 = .ok (.putfield 198, 3) := by decide +kernel
theorem dX7_text_5 : decode fX7_text.2.1 5 = .ok (.aload_n 0, 1) := by decide +kernel
theorem dX7_text_6 : decode fX7_text.2.1 6 = .ok (.iconst (-1), 1) := by decide +kernel
theorem dX7_text_7 : decode fX7_text.2.1 7 = .ok (.putfield 204, 3) := by decide +kernel
theorem dX7_text_10 : decode fX7_text.2.1 10 = .ok (.aload_n 0, 1) := by decide +kernel
theorem dX7_text_11 : decode fX7_text.2.1 11 = .ok (.invokevirtual 222, 3) := by decide +kernel
theorem dX7_text_14 : decode fX7_text.2.1 14 = .ok (.aload_n 0, 1) := by decide +kernel
theorem dX7_text_15 : decode fX7_text.2.1 15 = .ok (.invokevirtual 253, 3) := by decide +kernel
theorem dX7_text_18 : decode fX7_text.2.1 18 = .ok (.ifCond .eq 14, 3) := by decide +kernel
theorem dX7_text_21 : decode fX7_text.2.1 21 = .ok (.aload_n 0, 1) := by decide +kernel
theorem dX7_text_22 : decode fX7_text.2.1 22 = .ok (.invokevirtual 256, 3) := by decide +kernel
theorem dX7_text_25 : decode fX7_text.2.1 25 = .ok (.ifCond .eq 7, 3) := by decide +kernel
theorem dX7_text_28 : decode fX7_text.2.1 28 = .ok (.iconst 1, 1) := by decide +kernel
theorem dX7_text_29 : decode fX7_text.2.1 29 = .ok (.goto 4, 3) := by decide +kernel
theorem dX7_text_32 : decode fX7_text.2.1 32 = .ok (.iconst 0, 1) := by decide +kernel
theorem dX7_text_33 : decode fX7_text.2.1 33 = .ok (.istore_n 1, 1) := by decide +kernel
theorem dX7_text_34 : decode fX7_text.2.1 34 = .ok (.aload_n 0, 1) := by decide +kernel
theorem dX7_text_35 : decode fX7_text.2.1 35 = .ok (.iconst 0, 1) := by decide +kernel
theorem dX7_text_36 : decode fX7_text.2.1 36 = .ok (.putfield 194, 3) := by decide +kernel
theorem dX7_text_39 : decode fX7_text.2.1 39 = .ok (.iload_n 1, 1) := by decide +kernel
theorem dX7_text_40 : decode fX7_text.2.1 40 = .ok (.ifCond .ne 11, 3) := by decide +kernel
theorem dX7_text_43 : decode fX7_text.2.1 43 = .ok (.bipush (-100), 2) := by decide +kernel
theorem dX7_text_45 : decode fX7_text.2.1 45 = .ok (.aload_n 0, 1) := by decide +kernel
theorem dX7_text_46 : decode fX7_text.2.1 46 = .ok (.getfield 201, 3) := by decide +kernel
theorem dX7_text_49 : decode fX7_text.2.1 49 = .ok (.isub, 1) := by decide +kernel
theorem dX7_text_50 : decode fX7_text.2.1 50 = .ok (.ireturn, 1) := by decide +kernel
theorem dX7_text_51 : decode fX7_text.2.1 51 = .ok (.aload_n 0, 1) := by decide +kernel
theorem dX7_text_52 : decode fX7_text.2.1 52 = .ok (.getfield 9, 3) := by decide +kernel
theorem dX7_text_55 : decode fX7_text.2.1 55 = .ok (.iconst 5, 1) := by decide +kernel
theorem dX7_text_56 : decode fX7_text.2.1 56 = .ok (.iaload, 1) := by decide +kernel
theorem dX7_text_57 : decode fX7_text.2.1 57 = .ok (.bipush 14, 2) := by decide +kernel
theorem dX7_text_59 : decode fX7_text.2.1 59 = .ok (.if_icmp .ne 6, 3) := by decide +kernel
theorem dX7_text_62 : decode fX7_text.2.1 62 = .ok (.ldc 128, 2) := by decide +kernel
theorem dX7_text_64 : decode fX7_text.2.1 64 = .ok (.ireturn, 1) := by decide +kernel
theorem dX7_text_65 : decode fX7_text.2.1 65 = .ok (.aload_n 0, 1) := by decide +kernel
theorem dX7_text_66 : decode fX7_text.2.1 66 = .ok (.getfield 9, 3) := by decide +kernel
theorem dX7_text_69 : decode fX7_text.2.1 69 = .ok (.iconst 5, 1) := by decide +kernel
theorem dX7_text_70 : decode fX7_text.2.1 70 = .ok (.iaload, 1) := by decide +kernel
theorem dX7_text_71 : decode fX7_text.2.1 71 = .ok (.istore_n 2, 1) := by decide +kernel
theorem dX7_text_72 : decode fX7_text.2.1 72 = .ok (.aload_n 0, 1) := by decide +kernel
theorem dX7_text_73 : decode fX7_text.2.1 73 = .ok (.getfield 9, 3) := by decide +kernel
theorem dX7_text_76 : decode fX7_text.2.1 76 = .ok (.bipush 66, 2) := by decide +kernel
theorem dX7_text_78 : decode fX7_text.2.1 78 = .ok (.iconst 2, 1) := by decide +kernel
theorem dX7_text_79 : decode fX7_text.2.1 79 = .ok (.iload_n 2, 1) := by decide +kernel
theorem dX7_text_80 : decode fX7_text.2.1 80 = .ok (.imul, 1) := by decide +kernel
theorem dX7_text_81 : decode fX7_text.2.1 81 = .ok (.iadd, 1) := by decide +kernel
theorem dX7_text_82 : decode fX7_text.2.1 82 = .ok (.sipush 1000, 3) := by decide +kernel
theorem dX7_text_85 : decode fX7_text.2.1 85 = .ok (.aload_n 0, 1) := by decide +kernel
theorem dX7_text_86 : decode fX7_text.2.1 86 = .ok (.getfield 219, 3) := by decide +kernel
theorem dX7_text_89 : decode fX7_text.2.1 89 = .ok (.imul, 1) := by decide +kernel
theorem dX7_text_90 : decode fX7_text.2.1 90 = .ok (.aload_n 0, 1) := by decide +kernel
theorem dX7_text_91 : decode fX7_text.2.1 91 = .ok (.getfield 231, 3) := by decide +kernel
theorem dX7_text_94 : decode fX7_text.2.1 94 = .ok (.iadd, 1) := by decide +kernel
theorem dX7_text_95 : decode fX7_text.2.1 95 = .ok (.iastore, 1) := by decide +kernel
theorem dX7_text_96 : decode fX7_text.2.1 96 = .ok (.aload_n 0, 1) := by decide +kernel
theorem dX7_text_97 : decode fX7_text.2.1 97 = .ok (.getfield 9, 3) := by decide +kernel
theorem dX7_text_100 : decode fX7_text.2.1 100 = .ok (.bipush 66, 2) := by decide +kernel
theorem dX7_text_102 : decode fX7_text.2.1 102 = .ok (.iconst 2, 1) := by decide +kernel
theorem dX7_text_103 : decode fX7_text.2.1 103 = .ok (.iload_n 2, 1) := by decide +kernel
theorem dX7_text_104 : decode fX7_text.2.1 104 = .ok (.imul, 1) := by decide +kernel
theorem dX7_text_105 : decode fX7_text.2.1 105 = .ok (.iadd, 1) := by decide +kernel
theorem dX7_text_106 : decode fX7_text.2.1 106 = .ok (.iconst 1, 1) := by decide +kernel
theorem dX7_text_107 : decode fX7_text.2.1 107 = .ok (.iadd, 1) := by decide +kernel
theorem dX7_text_108 : decode fX7_text.2.1 108 = .ok (.aload_n 0, 1) := by decide +kernel
theorem dX7_text_109 : decode fX7_text.2.1 109 = .ok (.getfield 237, 3) := by decide +kernel
theorem dX7_text_112 : decode fX7_text.2.1 112 = .ok (.iastore, 1) := by decide +kernel
theorem dX7_text_113 : decode fX7_text.2.1 113 = .ok (.iconst 0, 1) := by decide +kernel
theorem dX7_text_114 : decode fX7_text.2.1 114 = .ok (.istore_n 3, 1) := by decide +kernel
theorem dX7_text_115 : decode fX7_text.2.1 115 = .ok (.iload_n 3, 1) := by decide +kernel
theorem dX7_text_116 : decode fX7_text.2.1 116 = .ok (.aload_n 0, 1) := by decide +kernel
theorem dX7_text_117 : decode fX7_text.2.1 117 = .ok (.getfield 231, 3) := by decide +kernel
theorem dX7_text_120 : decode fX7_text.2.1 120 = .ok (.if_icmp .ge 29, 3) := by decide +kernel
theorem dX7_text_123 : decode fX7_text.2.1 123 = .ok (.aload_n 0, 1) := by decide +kernel
theorem dX7_text_124 : decode fX7_text.2.1 124 = .ok (.getfield 9, 3) := by decide +kernel
theorem dX7_text_127 : decode fX7_text.2.1 127 = .ok (.bipush 94, 2) := by decide +kernel
theorem dX7_text_129 : decode fX7_text.2.1 129 = .ok (.bipush 96, 2) := by decide +kernel
theorem dX7_text_131 : decode fX7_text.2.1 131 = .ok (.iload_n 2, 1) := by decide +kernel
theorem dX7_text_132 : decode fX7_text.2.1 132 = .ok (.imul, 1) := by decide +kernel
theorem dX7_text_133 : decode fX7_text.2.1 133 = .ok (.iadd, 1) := by decide +kernel
theorem dX7_text_134 : decode fX7_text.2.1 134 = .ok (.iload_n 3, 1) := by decide +kernel
theorem dX7_text_135 : decode fX7_text.2.1 135 = .ok (.iadd, 1) := by decide +kernel
theorem dX7_text_136 : decode fX7_text.2.1 136 = .ok (.aload_n 0, 1) := by decide +kernel
theorem dX7_text_137 : decode fX7_text.2.1 137 = .ok (.getfield 35, 3) := by decide +kernel
theorem dX7_text_140 : decode fX7_text.2.1 140 = .ok (.iload_n 3, 1) := by decide +kernel
theorem dX7_text_141 : decode fX7_text.2.1 141 = .ok (.iaload, 1) := by decide +kernel
theorem dX7_text_142 : decode fX7_text.2.1 142 = .ok (.iastore, 1) := by decide +kernel
theorem dX7_text_143 : decode fX7_text.2.1 143 = .ok (.iinc 3 1, 3) := by decide +kernel
theorem dX7_text_146 : decode fX7_text.2.1 146 = .ok (.goto (-31), 3) := by decide +kernel
theorem dX7_text_149 : decode fX7_text.2.1 149 = .ok (.aload_n 0, 1) := by decide +kernel
theorem dX7_text_150 : decode fX7_text.2.1 150 = .ok (.getfield 9, 3) := by decide +kernel
theorem dX7_text_153 : decode fX7_text.2.1 153 = .ok (.iconst 5, 1) := by decide +kernel
theorem dX7_text_154 : decode fX7_text.2.1 154 = .ok (.dup2, 1) := by decide +kernel
theorem dX7_text_155 : decode fX7_text.2.1 155 = .ok (.iaload, 1) := by decide +kernel
theorem dX7_text_156 : decode fX7_text.2.1 156 = .ok (.iconst 1, 1) := by decide +kernel
theorem dX7_text_157 : decode fX7_text.2.1 157 = .ok (.iadd, 1) := by decide +kernel
theorem dX7_text_158 : decode fX7_text.2.1 158 = .ok (.iastore, 1) := by decide +kernel
theorem dX7_text_159 : decode fX7_text.2.1 159 = .ok (.iload_n 2, 1) := by decide +kernel
theorem dX7_text_160 : decode fX7_text.2.1 160 = .ok (.ireturn, 1) := by decide +kernel
set_option maxRecDepth 100000 in
set_option maxHeartbeats 4000000 in
theorem ok_X7_text {X : Xb} {S : Sg} {mi : Mem} {o c len : Nat} {A : Nat → Int32} {b : Nat → Int32} (hM : MdA S o) (hB : TpM mi o b len) (hl : len ≤ 96) (h7 : ∀ j, j < 11 → mi (o + 7) j = keysF j) (h8 : ∀ j, j < 4 → mi (o + 8) j = nI (katN j)) (hA : mi (o + 1) = A) (hc : A 5 = nI c) (hc14 : c ≤ 14) : Ok 4 0 0 fX7_text X [rf X o] S mi (MxP S mi o c A b len) := by
  refine Ok.go [some (rf X o), none, none, none] (by decide) (by simp [Value.category]) (Nat.le_of_ble_eq_true rfl) rfl ?_
  obtain ⟨k_o, ⟨r_o_now, k_o_now⟩, ⟨r_o_image, k_o_image⟩, ⟨r_o_aside, k_o_aside⟩, ⟨r_o_seen, k_o_seen⟩, ⟨r_o_unlike, k_o_unlike⟩, ⟨r_o_tape, k_o_tape⟩, ⟨r_o_keys, k_o_keys⟩, ⟨r_o_keyAt, k_o_keyAt⟩, ⟨r_o_code, k_o_code⟩, ⟨r_o_waits, k_o_waits⟩, ⟨r_o_tested, k_o_tested⟩, ⟨r_o_stack, k_o_stack⟩, ⟨r_o_facts, k_o_facts⟩, ⟨r_o_sorts, k_o_sorts⟩, ⟨r_o_sizes, k_o_sizes⟩, ⟨r_o_cells, k_o_cells⟩, ⟨r_o_holds, k_o_holds⟩, ⟨r_o_holdsA, k_o_holdsA⟩, ⟨r_o_holdsB, k_o_holdsB⟩, ⟨r_o_heldCells, k_o_heldCells⟩, ⟨r_o_moved, k_o_moved⟩, ⟨r_o_tells, k_o_tells⟩⟩ := id hM
  obtain ⟨f0, hf0⟩ := nI_any (mi o 9)
  obtain ⟨t0, ht0⟩ := nI_any (mi o 10)
  have g0 : TkG (m_up (m_up mi o 8 0) o 12 (-1)) o (0, f0, t0, mi o 11, -1) := ⟨by simp [m_up]; rfl, by simp [m_up]; exact hf0, by simp [m_up]; exact ht0, by simp [m_up], by simp [m_up]⟩
  have q0 : FrG o mi (m_up (m_up mi o 8 0) o 12 (-1)) := ((FrG.rf o mi).up (by decide)).up (by decide)
  have sF : ∀ m ft, rdM b len (mi o 11) (mi (o + 11)) = .inl ft → m o 9 = nI ft → m (o + 1) = A → FrX o mi m → MW X fX7_text (rmOf 4 0 0) 0 0 32 [some (rf X o), none, none, none] [] S m (mQ X 0 0 (MxP S mi o c A b len)) := by
    intro m ft hr h9 h1 hF
    have e9 : m_up m o 7 0 o 9 = nI ft := by rw [m_up_of (by decide)]; exact h9
    refine mw_iconst (v := 0) dX7_text_32 (by decide) ?_
    refine mw_istN 1 dX7_text_33 rfl (by decide) ?_
    refine mw_aload_n dX7_text_34 rfl ?_
    refine mw_iconst (v := 0) dX7_text_35 (by decide) ?_
    refine mw_puti dX7_text_36 fl_X7_194 ft_7_7 rfl (rfl) rfl (by assumption) ?_
    refine mw_iload_n dX7_text_39 rfl ?_
    refine mw_if_ne (tgt := 51) dX7_text_40 (by decide) (fun h40 => ?_) (fun h40 => ?_)
    · skip
      exact absurd rfl h40
    · skip
      refine mw_bipush (v := (-100)) dX7_text_43 (by decide) ?_
      refine mw_aload_n dX7_text_45 rfl ?_
      refine mw_geti dX7_text_46 fl_X7_201 rfl (by assumption) ?_
      rw [e9]
      refine mw_isub dX7_text_49 ?_
      exact mw_iret dX7_text_50 rfl (by decide) (by decide) (⟨rfl, m_up_at _ _ _ _, ⟨fun a g1 g2 g3 g4 g5 => by rw [m_up_ne g1]; exact hF.1 a g1 g2 g3 g4 g5, fun j g => by rw [m_up_of (by omega)]; exact hF.2 j g⟩, Or.inl ⟨ft, hr, rfl, by rw [m_up_ne (by omega)]; exact h1⟩⟩)
  have sT : ∀ m key C t, rdM b len (mi o 11) (mi (o + 11)) = .inr (key, C, t) → key < 3 → C.length ≤ 96 → m o 13 = nI key → m o 17 = nI C.length → m o 18 = nI t → CodR (m (o + 9)) C → m (o + 1) = A → FrX o mi m → MW X fX7_text (rmOf 4 0 0) 0 0 28 [some (rf X o), none, none, none] [] S m (mQ X 0 0 (MxP S mi o c A b len)) := by
    intro m key C t hr k3 c96 h13 h17 h18 hcd h1 hF
    have hF7 : FrX o mi (m_up m o 7 0) := ⟨fun a g1 g2 g3 g4 g5 => by rw [m_up_ne g1]; exact hF.1 a g1 g2 g3 g4 g5, fun j g => by rw [m_up_of (by omega)]; exact hF.2 j g⟩
    have d7 : m_up m o 7 0 o 7 = 0 := m_up_at _ _ _ _
    have d13 : m_up m o 7 0 o 13 = nI key := by rw [m_up_of (by decide)]; exact h13
    have d17 : m_up m o 7 0 o 17 = nI C.length := by rw [m_up_of (by decide)]; exact h17
    have d18 : m_up m o 7 0 o 18 = nI t := by rw [m_up_of (by decide)]; exact h18
    have d9 : CodR (m_up m o 7 0 (o + 9)) C := by rw [m_up_ne (by omega)]; exact hcd
    have d1 : m_up m o 7 0 (o + 1) = A := by rw [m_up_ne (by omega)]; exact h1
    have s65 : c < 14 → ∀ m2, m2 o 7 = 0 → m2 o 13 = nI key → m2 o 17 = nI C.length → m2 o 18 = nI t → CodR (m2 (o + 9)) C → m2 (o + 1) = A → FrX o mi m2 → MW X fX7_text (rmOf 4 0 0) 0 0 65 [some (rf X o), some (.int 1), none, none] [] S m2 (mQ X 0 0 (MxP S mi o c A b len)) := by
      intro hc' m2 r7 r13 r17 r18 r9 r1 rF
      have r5 : m2 (o + 1) 5 = nI c := by rw [r1, hc]
      have i0 : (66 : Int32) + 2 * nI c = nI (66 + 2 * c) := ix66 c
      have i1 : (66 : Int32) + 2 * nI c + 1 = nI (66 + 2 * c + 1) := by rw [i0, nI_1]
      have iv : (1000 : Int32) * nI key + nI C.length = nI (1000 * key + C.length) := by show nI 1000 * nI key + nI C.length = _; rw [nI_mul, nI_add]
      have lp : ∀ m3, m3 (o + 1) = (upd (upd A (66 + 2 * c) (nI (1000 * key + C.length))) (66 + 2 * c + 1) (nI t)) → (∀ a, a ≠ o + 1 → m3 a = m2 a) → MW X fX7_text (rmOf 4 0 0) 0 0 115 [some (rf X o), some (.int 1), some (.int (nI c)), some (.int (nI 0))] [] S m3 (mQ X 0 0 (MxP S mi o c A b len)) := by
        intro m3 n1 n2
        have lp := mw_dn (P := fun k => ∀ m4, m4 (o + 1) = cpC (upd (upd A (66 + 2 * c) (nI (1000 * key + C.length))) (66 + 2 * c + 1) (nI t)) (fun k => C.getD k 0) (94 + 96 * c) k → (∀ a, a ≠ o + 1 → m4 a = m2 a) → MW X fX7_text (rmOf 4 0 0) 0 0 115 [some (rf X o), some (.int 1), some (.int (nI c)), some (.int (nI k))] [] S m4 (mQ X 0 0 (MxP S mi o c A b len))) (C.length) (by
          intro m4 w1 w2
          have w17 : m4 o 17 = nI C.length := by rw [w2 o (by omega)]; exact r17
          have w5 : m4 (o + 1) 5 = nI c := by { rw [w1]; simp only [cpC]; rw [if_neg (by omega)]; simp only [upd]; rw [if_neg (by omega), if_neg (by omega)]; exact hc }
          refine mw_iload_n dX7_text_115 rfl ?_
          refine mw_aload_n dX7_text_116 rfl ?_
          refine mw_geti dX7_text_117 fl_X7_231 rfl (by assumption) ?_
          rw [w17]
          refine mw_icmp_ge (tgt := 149) dX7_text_120 (by decide) (fun h120 => ?_) (fun h120 => ?_)
          · skip
            refine mw_aload_n dX7_text_149 rfl ?_
            refine mw_getr dX7_text_150 fl_X7_9 rfl (by assumption) (by assumption) ?_
            refine mw_iconst (v := 5) dX7_text_153 (by decide) ?_
            refine mw_dup2 dX7_text_154 rfl rfl ?_
            refine mw_ialdK (k := 5) dX7_text_155 (by assumption) (rfl) (by decide) (by decide) ?_
            rw [w5]
            refine mw_iconst (v := 1) dX7_text_156 (by decide) ?_
            refine mw_iadd dX7_text_157 ?_
            rw [nI_1]
            refine mw_iastK (k := 5) dX7_text_158 (by assumption) (rfl) (by decide) (by decide) ?_
            refine mw_iload_n dX7_text_159 rfl ?_
            exact mw_iret dX7_text_160 rfl (by decide) (by decide) (⟨rfl, by rw [m_up_ne (by omega), w2 o (by omega)]; exact r7, ⟨fun a g1 g2 g3 g4 g5 => by rw [m_up_ne g2, w2 a g2]; exact rF.1 a g1 g2 g3 g4 g5, fun j g => by rw [m_up_ne (by omega), w2 o (by omega)]; exact rF.2 j g⟩, Or.inr ⟨key, C, t, hr, k3, c96, Or.inr ⟨hc', rfl, by rw [m_up_row, w1]; rfl⟩⟩⟩)
          · skip
            exact absurd (Int32.le_refl _) h120) (fun k hk ih => by
          intro m4 w1 w2
          have w17 : m4 o 17 = nI C.length := by rw [w2 o (by omega)]; exact r17
          have w9 : m4 (o + 9) k = C.getD k 0 := by rw [w2 (o + 9) (by omega)]; exact r9 k hk
          have ix : (94 : Int32) + 96 * nI c + nI k = nI (94 + 96 * c + k) := ix94 c k
          refine mw_iload_n dX7_text_115 rfl ?_
          refine mw_aload_n dX7_text_116 rfl ?_
          refine mw_geti dX7_text_117 fl_X7_231 rfl (by assumption) ?_
          rw [w17]
          refine mw_icmp_ge (tgt := 149) dX7_text_120 (by decide) (fun h120 => ?_) (fun h120 => ?_)
          · skip
            exact absurd h120 (nI_ge hk (by omega))
          · skip
            refine mw_aload_n dX7_text_123 rfl ?_
            refine mw_getr dX7_text_124 fl_X7_9 rfl (by assumption) (by assumption) ?_
            refine mw_bipush (v := 94) dX7_text_127 (by decide) ?_
            refine mw_bipush (v := 96) dX7_text_129 (by decide) ?_
            refine mw_iload_n dX7_text_131 rfl ?_
            refine mw_imul dX7_text_132 ?_
            refine mw_iadd dX7_text_133 ?_
            refine mw_iload_n dX7_text_134 rfl ?_
            refine mw_iadd dX7_text_135 ?_
            rw [ix]
            refine mw_aload_n dX7_text_136 rfl ?_
            refine mw_getr dX7_text_137 fl_X7_35 rfl (by assumption) (by assumption) ?_
            refine mw_iload_n dX7_text_140 rfl ?_
            refine mw_ialdK (k := k) dX7_text_141 (by assumption) (rfl) (by omega) (by decide) ?_
            rw [w9]
            refine mw_iastK (k := 94 + 96 * c + k) dX7_text_142 (by assumption) (rfl) (by omega) (by decide) ?_
            refine mw_iincK (k := k) dX7_text_143 rfl rfl (by decide) ?_
            refine mw_goto (tgt := 115) dX7_text_146 (by decide) ?_
            exact MW.sub (by simp [lsub]) (ih _ (by rw [m_up_row, w1, show C.getD k 0 = (fun k => C.getD k 0) k from rfl, cpC_s]) (fun a ha => by rw [m_up_ne ha]; exact w2 a ha)))
        exact lp m3 (by rw [n1, cpC_0]) n2
      refine mw_aload_n dX7_text_65 rfl ?_
      refine mw_getr dX7_text_66 fl_X7_9 rfl (by assumption) (by assumption) ?_
      refine mw_iconst (v := 5) dX7_text_69 (by decide) ?_
      refine mw_ialdK (k := 5) dX7_text_70 (by assumption) (rfl) (by decide) (by decide) ?_
      rw [r5]
      refine mw_istN 2 dX7_text_71 rfl (by decide) ?_
      refine mw_aload_n dX7_text_72 rfl ?_
      refine mw_getr dX7_text_73 fl_X7_9 rfl (by assumption) (by assumption) ?_
      refine mw_bipush (v := 66) dX7_text_76 (by decide) ?_
      refine mw_iconst (v := 2) dX7_text_78 (by decide) ?_
      refine mw_iload_n dX7_text_79 rfl ?_
      refine mw_imul dX7_text_80 ?_
      refine mw_iadd dX7_text_81 ?_
      rw [i0]
      refine mw_sipush (v := 1000) dX7_text_82 (by decide) ?_
      refine mw_aload_n dX7_text_85 rfl ?_
      refine mw_geti dX7_text_86 fl_X7_219 rfl (by assumption) ?_
      rw [r13]
      refine mw_imul dX7_text_89 ?_
      refine mw_aload_n dX7_text_90 rfl ?_
      refine mw_geti dX7_text_91 fl_X7_231 rfl (by assumption) ?_
      rw [r17]
      refine mw_iadd dX7_text_94 ?_
      rw [iv]
      refine mw_iastK (k := 66 + 2 * c) dX7_text_95 (by assumption) (rfl) (by omega) (by decide) ?_
      refine mw_aload_n dX7_text_96 rfl ?_
      refine mw_getr dX7_text_97 fl_X7_9 rfl (by assumption) (by assumption) ?_
      refine mw_bipush (v := 66) dX7_text_100 (by decide) ?_
      refine mw_iconst (v := 2) dX7_text_102 (by decide) ?_
      refine mw_iload_n dX7_text_103 rfl ?_
      refine mw_imul dX7_text_104 ?_
      refine mw_iadd dX7_text_105 ?_
      refine mw_iconst (v := 1) dX7_text_106 (by decide) ?_
      refine mw_iadd dX7_text_107 ?_
      rw [i1]
      refine mw_aload_n dX7_text_108 rfl ?_
      refine mw_geti dX7_text_109 fl_X7_237 rfl (by assumption) ?_
      rw [m_up_ne (show o ≠ o + 1 by omega), r18]
      refine mw_iastK (k := 66 + 2 * c + 1) dX7_text_112 (by assumption) (rfl) (by omega) (by decide) ?_
      refine mw_iconst (v := 0) dX7_text_113 (by decide) ?_
      refine mw_istN 3 dX7_text_114 rfl (by decide) ?_
      exact MW.sub (by simp [lsub, nI_0]) (lp _ (by rw [m_up_row, m_up_row, r1]) (fun a ha => by rw [m_up_ne ha, m_up_ne ha]))
    refine mw_iconst (v := 1) dX7_text_28 (by decide) ?_
    refine mw_goto (tgt := 33) dX7_text_29 (by decide) ?_
    refine mw_istN 1 dX7_text_33 rfl (by decide) ?_
    refine mw_aload_n dX7_text_34 rfl ?_
    refine mw_iconst (v := 0) dX7_text_35 (by decide) ?_
    refine mw_puti dX7_text_36 fl_X7_194 ft_7_7 rfl (rfl) rfl (by assumption) ?_
    generalize m_up m o 7 0 = m2 at hF7 d7 d13 d17 d18 d9 d1
    refine mw_iload_n dX7_text_39 rfl ?_
    refine mw_if_ne (tgt := 51) dX7_text_40 (by decide) (fun h40 => ?_) (fun h40 => ?_)
    · skip
      refine mw_aload_n dX7_text_51 rfl ?_
      refine mw_getr dX7_text_52 fl_X7_9 rfl (by assumption) (by assumption) ?_
      refine mw_iconst (v := 5) dX7_text_55 (by decide) ?_
      refine mw_ialdK (k := 5) dX7_text_56 (by assumption) (rfl) (by decide) (by decide) ?_
      rw [show m2 (o + 1) 5 = nI c from by rw [d1, hc]]
      refine mw_bipush (v := 14) dX7_text_57 (by decide) ?_
      refine mw_icmp_ne (tgt := 65) dX7_text_59 (by decide) (fun h59 => ?_) (fun h59 => ?_)
      · skip
        exact MW.sub (by simp [lsub]) (s65 (by rcases Nat.lt_or_ge c 14 with g | g; exact g; exact absurd (show nI c = 14 from by rw [show c = 14 by omega]; rfl) h59) m2 d7 d13 d17 d18 d9 d1 hF7)
      · skip
        refine mw_ldc dX7_text_62 cn_X7_128 ?_
        exact mw_iret dX7_text_64 rfl (by decide) (by decide) (⟨rfl, d7, hF7, Or.inr ⟨key, C, t, hr, k3, c96, Or.inl ⟨(nI_eq (b := 14) (by omega) (by decide)).mp h59, rfl, d1⟩⟩⟩)
    · skip
      exact absurd h40 (by decide)
  refine mw_aload_n dX7_text_0 rfl ?_
  refine mw_iconst (v := 0) dX7_text_1 (by decide) ?_
  refine mw_puti dX7_text_2 fl_X7_198 ft_7_8 rfl (rfl) rfl (by assumption) ?_
  refine mw_aload_n dX7_text_5 rfl ?_
  refine mw_iconst (v := (-1)) dX7_text_6 (by decide) ?_
  refine mw_puti dX7_text_7 fl_X7_204 ft_7_12 rfl (rfl) rfl (by assumption) ?_
  generalize m_up (m_up mi o 8 0) o 12 (-1) = m0 at g0 q0
  refine mw_aload_n dX7_text_10 rfl ?_
  refine mw_callV (g := fX7_go) dX7_text_11 ml_X7_222 mfX7_go (ok_X7_go hM (hB.fr q0) hl g0 (Nat.zero_le _)) k_o rfl rfl (Nat.le_of_ble_eq_true rfl) ⟨by decide, by decide⟩ ⟨by decide, by decide⟩ (fun r S1 m1 hp => ?_)
  obtain ⟨rfl, e1, h1, f1⟩ := hp
  rw [e1]
  have h1' : TkG m1 o (goS b len (0, 0, 0, mi o 11, -1)) := h1
  have q1 := q0.tr f1
  have gg := gb_go (b := b) (G := (0, 0, 0, mi o 11, -1)) (Nat.zero_le len) hl
  refine mw_aload_n dX7_text_14 rfl ?_
  refine mw_callV (g := fX7_takesKey) dX7_text_15 ml_X7_253 mfX7_takesKey (ok_X7_takesKey hM (hB.fr q1) h1' gg.1 (fun j hj => by rw [q1.1 (o + 7) (by omega)]; exact h7 j hj) (fun j hj => by rw [q1.1 (o + 8) (by omega)]; exact h8 j hj)) k_o rfl rfl (Nat.le_of_ble_eq_true rfl) ⟨by decide, by decide⟩ ⟨by decide, by decide⟩ (fun r S2 m2 hp => ?_)
  obtain ⟨e2, ⟨kn, rfl, e3⟩ | ⟨kn, rfl, k13, kg, ka, kf⟩⟩ := hp
  · rw [e2, e3]
    refine mw_if_eqB (tgt := 32) dX7_text_18 (by decide) (fun h18 => ?_) (fun h18 => h18.elim)
    exact sF m1 _ (by rw [rdM, if_pos kn]) h1'.2.1 (by rw [q1.1 (o + 1) (by omega)]; exact hA) ⟨fun a g _ _ _ _ => q1.1 a g, fun j g => q1.2 j (by omega)⟩
  rw [e2]
  refine mw_if_eqB (tgt := 32) dX7_text_18 (by decide) (fun h18 => absurd trivial h18) (fun h18 => ?_)
  obtain ⟨key, k3, hkey, gpos⟩ := keyM_in kn
  have ek : (keyM b (goS b len (0, 0, 0, mi o 11, -1))).toNatClampNeg = key := by rw [hkey, nI_clamp (by omega)]
  have g2 := gb_go (b := b) (G := (goS b len (0, 0, 0, mi o 11, -1))) gg.1.2.1 hl
  have hB2 : TpM m2 o b len := ⟨by rw [ka (o + 6) (by omega), q1.1 (o + 6) (by omega)]; exact hB.1, by rw [kf 7 (by omega), q1.2 7 (by omega)]; exact hB.2⟩
  have t11 : m2 (o + 11) = mi (o + 11) := by rw [ka (o + 11) (by omega), q1.1 (o + 11) (by omega)]
  skip
  refine mw_aload_n dX7_text_21 rfl ?_
  refine mw_callV (g := fX7_takesE) dX7_text_22 ml_X7_256 mfX7_takesE (ok_X7_takesE (key := key) hM hB2 kg g2.1 (k13.trans hkey) (Nat.lt_of_lt_of_le gpos g2.2)) k_o rfl rfl (Nat.le_of_ble_eq_true rfl) ⟨by decide, by decide⟩ ⟨by decide, by decide⟩ (fun r S3 m3 hp => ?_)
  obtain ⟨rfl, e4, h3, hc3, l3, f3⟩ := hp
  rw [e4]
  rw [t11] at h3 hc3 l3 ⊢
  generalize hE : esR b len key 97 (goS b len (goS b len (0, 0, 0, mi o 11, -1)), ([], 0, []), upd (mi (o + 11)) 0 0, 0, 0, true) = RR at h3 hc3 l3 ⊢
  have fr3 : FrX o mi m3 := ⟨fun a n1 n2 n3 n4 n5 => by rw [f3.1 a n1 n3 n4 n5, ka a n1, q1.1 a n1], fun j n => by rw [f3.2 j (by omega), kf j (by omega), q1.2 j (by omega)]⟩
  have a3 : m3 (o + 1) = A := by rw [f3.1 (o + 1) (by omega) (by omega) (by omega) (by omega), ka (o + 1) (by omega), q1.1 (o + 1) (by omega)]; exact hA
  refine mw_if_eqB (tgt := 32) dX7_text_25 (by decide) (fun h25 => ?_) (fun h25 => ?_)
  · exact sF m3 _ (by rw [rdM, if_neg kn, ek, hE, if_neg h25]) h3.2.1 a3 fr3
  exact sT m3 key _ _ (by rw [rdM, if_neg kn, ek, hE, if_pos h25]) k3 l3 (by rw [f3.2 13 (by omega)]; exact k13.trans hkey) hc3.1 hc3.2.1 hc3.2.2.2.1 a3 fr3
