/-! the model: like -/
def offI (x : Int32) : Int32 := if 0 ≤ x then x else -x
theorem offI_eq (x : Int32) : (if 0 ≤ x then x else -x) = offI x := rfl
def lkM (r : Nat → Nat → Int32) (c : Nat → Int32) (a : Nat) : Nat → Int32
  | 0 => 0
  | k + 1 => if c k = NONEi then lkM r c a k else lkM r c a k + offI (c k - r k a)
def mlkR (lw : LawT) (n : Nat) (A : Nat → Int32) (k a : Nat) : Int32 := mRent lw (mHours lw n A k) a
def mLike (mi : Mem) (o n : Nat) (A : Nat → Int32) (lw : LawT) (v w : Int32) : Int32 := if (0 ≤ v ∧ v ≤ 3) ∧ (0 ≤ w ∧ w ≤ 1) then (if mi (o + 14) v.toNatClampNeg < 0 then NOTHINGi else lkV (fun i => lkM (mlkR lw n A) (fun k => mi (o + 16) (24 * v.toNatClampNeg + k)) i (mi (o + 15) v.toNatClampNeg).toNatClampNeg) n w) else BADi
def FrL (o : Nat) (mi m : Mem) : Prop := ∀ a, a ≠ o + 1 → a ≠ o + 5 → a ≠ o + 12 → a ≠ o + 13 → m a = mi a
theorem FrL.of {o : Nat} {a b c : Mem} (h : FrL o a b) (k : FrM o b c) : FrL o a c := fun x h1 h2 h3 h4 => (k x h1 h3 h4).trans (h x h1 h2 h3 h4)
theorem dX7_like_0 : decode fX7_like.2.1 0 = .ok (.iload_n 1, 1) := by decide +kernel
theorem dX7_like_1 : decode fX7_like.2.1 1 = .ok (.invokestatic 187, 3) := by decide +kernel
theorem dX7_like_4 : decode fX7_like.2.1 4 = .ok (.ifCond .eq 12, 3) := by decide +kernel
theorem dX7_like_7 : decode fX7_like.2.1 7 = .ok (.iload_n 2, 1) := by decide +kernel
theorem dX7_like_8 : decode fX7_like.2.1 8 = .ok (.iconst 0, 1) := by decide +kernel
theorem dX7_like_9 : decode fX7_like.2.1 9 = .ok (.iconst 1, 1) := by decide +kernel
theorem dX7_like_10 : decode fX7_like.2.1 10 = .ok (.invokestatic 78, 3) := by decide +kernel
theorem dX7_like_13 : decode fX7_like.2.1 13 = .ok (.ifCond .ne 6, 3) := by decide +kernel
theorem dX7_like_16 : decode fX7_like.2.1 16 = .ok (.ldc 127, 2) := by decide +kernel
theorem dX7_like_18 : decode fX7_like.2.1 18 = .ok (.ireturn, 1) := by decide +kernel
theorem dX7_like_19 : decode fX7_like.2.1 19 = .ok (.aload_n 0, 1) := by decide +kernel
theorem dX7_like_20 : decode fX7_like.2.1 20 = .ok (.getfield 51, 3) := by decide +kernel
theorem dX7_like_23 : decode fX7_like.2.1 23 = .ok (.iload_n 1, 1) := by decide +kernel
theorem dX7_like_24 : decode fX7_like.2.1 24 = .ok (.iaload, 1) := by decide +kernel
theorem dX7_like_25 : decode fX7_like.2.1 25 = .ok (.ifCond .ge 6, 3) := by decide +kernel
theorem dX7_like_28 : decode fX7_like.2.1 28 = .ok (.ldc 190, 2) := by decide +kernel
theorem dX7_like_30 : decode fX7_like.2.1 30 = .ok (.ireturn, 1) := by decide +kernel
theorem dX7_like_31 : decode fX7_like.2.1 31 = .ok (.aload_n 0, 1) := by decide +kernel
theorem dX7_like_32 : decode fX7_like.2.1 32 = .ok (.invokevirtual 177, 3) := by decide +kernel
theorem dX7_like_35 : decode fX7_like.2.1 35 = .ok (.aload_n 0, 1) := by decide +kernel
theorem dX7_like_36 : decode fX7_like.2.1 36 = .ok (.getfield 9, 3) := by decide +kernel
theorem dX7_like_39 : decode fX7_like.2.1 39 = .ok (.iconst 1, 1) := by decide +kernel
theorem dX7_like_40 : decode fX7_like.2.1 40 = .ok (.iaload, 1) := by decide +kernel
theorem dX7_like_41 : decode fX7_like.2.1 41 = .ok (.istore_n 3, 1) := by decide +kernel
theorem dX7_like_42 : decode fX7_like.2.1 42 = .ok (.iconst 0, 1) := by decide +kernel
theorem dX7_like_43 : decode fX7_like.2.1 43 = .ok (.istore 4, 2) := by decide +kernel
theorem dX7_like_45 : decode fX7_like.2.1 45 = .ok (.iload 4, 2) := by decide +kernel
theorem dX7_like_47 : decode fX7_like.2.1 47 = .ok (.iload_n 3, 1) := by decide +kernel
theorem dX7_like_48 : decode fX7_like.2.1 48 = .ok (.if_icmp .ge 17, 3) := by decide +kernel
theorem dX7_like_51 : decode fX7_like.2.1 51 = .ok (.aload_n 0, 1) := by decide +kernel
theorem dX7_like_52 : decode fX7_like.2.1 52 = .ok (.getfield 22, 3) := by decide +kernel
theorem dX7_like_55 : decode fX7_like.2.1 55 = .ok (.iload 4, 2) := by decide +kernel
theorem dX7_like_57 : decode fX7_like.2.1 57 = .ok (.iconst 0, 1) := by decide +kernel
theorem dX7_like_58 : decode fX7_like.2.1 58 = .ok (.iastore, 1) := by decide +kernel
theorem dX7_like_59 : decode fX7_like.2.1 59 = .ok (.iinc 4 1, 3) := by decide +kernel
theorem dX7_like_62 : decode fX7_like.2.1 62 = .ok (.goto (-17), 3) := by decide +kernel
theorem dX7_like_65 : decode fX7_like.2.1 65 = .ok (.iconst 0, 1) := by decide +kernel
theorem dX7_like_66 : decode fX7_like.2.1 66 = .ok (.istore 4, 2) := by decide +kernel
theorem dX7_like_68 : decode fX7_like.2.1 68 = .ok (.iload 4, 2) := by decide +kernel
theorem dX7_like_70 : decode fX7_like.2.1 70 = .ok (.aload_n 0, 1) := by decide +kernel
theorem dX7_like_71 : decode fX7_like.2.1 71 = .ok (.getfield 54, 3) := by decide +kernel
theorem dX7_like_74 : decode fX7_like.2.1 74 = .ok (.iload_n 1, 1) := by decide +kernel
theorem dX7_like_75 : decode fX7_like.2.1 75 = .ok (.iaload, 1) := by decide +kernel
theorem dX7_like_76 : decode fX7_like.2.1 76 = .ok (.if_icmp .ge 71, 3) := by decide +kernel
theorem dX7_like_79 : decode fX7_like.2.1 79 = .ok (.aload_n 0, 1) := by decide +kernel
theorem dX7_like_80 : decode fX7_like.2.1 80 = .ok (.getfield 57, 3) := by decide +kernel
theorem dX7_like_83 : decode fX7_like.2.1 83 = .ok (.bipush 24, 2) := by decide +kernel
theorem dX7_like_85 : decode fX7_like.2.1 85 = .ok (.iload_n 1, 1) := by decide +kernel
theorem dX7_like_86 : decode fX7_like.2.1 86 = .ok (.imul, 1) := by decide +kernel
theorem dX7_like_87 : decode fX7_like.2.1 87 = .ok (.iload 4, 2) := by decide +kernel
theorem dX7_like_89 : decode fX7_like.2.1 89 = .ok (.iadd, 1) := by decide +kernel
theorem dX7_like_90 : decode fX7_like.2.1 90 = .ok (.iaload, 1) := by decide +kernel
theorem dX7_like_91 : decode fX7_like.2.1 91 = .ok (.istore 5, 2) := by decide +kernel
theorem dX7_like_93 : decode fX7_like.2.1 93 = .ok (.iconst 0, 1) := by decide +kernel
theorem dX7_like_94 : decode fX7_like.2.1 94 = .ok (.istore 6, 2) := by decide +kernel
theorem dX7_like_96 : decode fX7_like.2.1 96 = .ok (.iload 6, 2) := by decide +kernel
theorem dX7_like_98 : decode fX7_like.2.1 98 = .ok (.iload_n 3, 1) := by decide +kernel
theorem dX7_like_99 : decode fX7_like.2.1 99 = .ok (.if_icmp .ge 38, 3) := by decide +kernel
theorem dX7_like_102 : decode fX7_like.2.1 102 = .ok (.iload 5, 2) := by decide +kernel
theorem dX7_like_104 : decode fX7_like.2.1 104 = .ok (.ldc 172, 2) := by decide +kernel
theorem dX7_like_106 : decode fX7_like.2.1 106 = .ok (.if_icmp .eq 31, 3) := by decide +kernel
theorem dX7_like_109 : decode fX7_like.2.1 109 = .ok (.aload_n 0, 1) := by decide +kernel
theorem dX7_like_110 : decode fX7_like.2.1 110 = .ok (.getfield 22, 3) := by decide +kernel
theorem dX7_like_113 : decode fX7_like.2.1 113 = .ok (.iload 6, 2) := by decide +kernel
theorem dX7_like_115 : decode fX7_like.2.1 115 = .ok (.dup2, 1) := by decide +kernel
theorem dX7_like_116 : decode fX7_like.2.1 116 = .ok (.iaload, 1) := by decide +kernel
theorem dX7_like_117 : decode fX7_like.2.1 117 = .ok (.iload 5, 2) := by decide +kernel
theorem dX7_like_119 : decode fX7_like.2.1 119 = .ok (.aload_n 0, 1) := by decide +kernel
theorem dX7_like_120 : decode fX7_like.2.1 120 = .ok (.iload 6, 2) := by decide +kernel
theorem dX7_like_122 : decode fX7_like.2.1 122 = .ok (.invokevirtual 135, 3) := by decide +kernel
theorem dX7_like_125 : decode fX7_like.2.1 125 = .ok (.isub, 1) := by decide +kernel
theorem dX7_like_126 : decode fX7_like.2.1 126 = .ok (.invokestatic 191, 3) := by decide +kernel
theorem dX7_like_129 : decode fX7_like.2.1 129 = .ok (.iadd, 1) := by decide +kernel
theorem dX7_like_130 : decode fX7_like.2.1 130 = .ok (.iastore, 1) := by decide +kernel
theorem dX7_like_131 : decode fX7_like.2.1 131 = .ok (.iinc 6 1, 3) := by decide +kernel
theorem dX7_like_134 : decode fX7_like.2.1 134 = .ok (.goto (-38), 3) := by decide +kernel
theorem dX7_like_137 : decode fX7_like.2.1 137 = .ok (.aload_n 0, 1) := by decide +kernel
theorem dX7_like_138 : decode fX7_like.2.1 138 = .ok (.invokevirtual 160, 3) := by decide +kernel
theorem dX7_like_141 : decode fX7_like.2.1 141 = .ok (.iinc 4 1, 3) := by decide +kernel
theorem dX7_like_144 : decode fX7_like.2.1 144 = .ok (.goto (-76), 3) := by decide +kernel
theorem dX7_like_147 : decode fX7_like.2.1 147 = .ok (.aload_n 0, 1) := by decide +kernel
theorem dX7_like_148 : decode fX7_like.2.1 148 = .ok (.invokevirtual 180, 3) := by decide +kernel
theorem dX7_like_151 : decode fX7_like.2.1 151 = .ok (.iconst 0, 1) := by decide +kernel
theorem dX7_like_152 : decode fX7_like.2.1 152 = .ok (.istore 4, 2) := by decide +kernel
theorem dX7_like_154 : decode fX7_like.2.1 154 = .ok (.iconst 1, 1) := by decide +kernel
theorem dX7_like_155 : decode fX7_like.2.1 155 = .ok (.istore 5, 2) := by decide +kernel
theorem dX7_like_157 : decode fX7_like.2.1 157 = .ok (.iload 5, 2) := by decide +kernel
theorem dX7_like_159 : decode fX7_like.2.1 159 = .ok (.iload_n 3, 1) := by decide +kernel
theorem dX7_like_160 : decode fX7_like.2.1 160 = .ok (.if_icmp .ge 35, 3) := by decide +kernel
theorem dX7_like_163 : decode fX7_like.2.1 163 = .ok (.aload_n 0, 1) := by decide +kernel
theorem dX7_like_164 : decode fX7_like.2.1 164 = .ok (.getfield 22, 3) := by decide +kernel
theorem dX7_like_167 : decode fX7_like.2.1 167 = .ok (.iload 5, 2) := by decide +kernel
theorem dX7_like_169 : decode fX7_like.2.1 169 = .ok (.iaload, 1) := by decide +kernel
theorem dX7_like_170 : decode fX7_like.2.1 170 = .ok (.aload_n 0, 1) := by decide +kernel
theorem dX7_like_171 : decode fX7_like.2.1 171 = .ok (.getfield 22, 3) := by decide +kernel
theorem dX7_like_174 : decode fX7_like.2.1 174 = .ok (.iload 4, 2) := by decide +kernel
theorem dX7_like_176 : decode fX7_like.2.1 176 = .ok (.iaload, 1) := by decide +kernel
theorem dX7_like_177 : decode fX7_like.2.1 177 = .ok (.if_icmp .ge 8, 3) := by decide +kernel
theorem dX7_like_180 : decode fX7_like.2.1 180 = .ok (.iload 5, 2) := by decide +kernel
theorem dX7_like_182 : decode fX7_like.2.1 182 = .ok (.goto 5, 3) := by decide +kernel
theorem dX7_like_185 : decode fX7_like.2.1 185 = .ok (.iload 4, 2) := by decide +kernel
theorem dX7_like_187 : decode fX7_like.2.1 187 = .ok (.istore 4, 2) := by decide +kernel
theorem dX7_like_189 : decode fX7_like.2.1 189 = .ok (.iinc 5 1, 3) := by decide +kernel
theorem dX7_like_192 : decode fX7_like.2.1 192 = .ok (.goto (-35), 3) := by decide +kernel
theorem dX7_like_195 : decode fX7_like.2.1 195 = .ok (.iload_n 3, 1) := by decide +kernel
theorem dX7_like_196 : decode fX7_like.2.1 196 = .ok (.ifCond .ne 8, 3) := by decide +kernel
theorem dX7_like_199 : decode fX7_like.2.1 199 = .ok (.ldc 172, 2) := by decide +kernel
theorem dX7_like_201 : decode fX7_like.2.1 201 = .ok (.goto 19, 3) := by decide +kernel
theorem dX7_like_204 : decode fX7_like.2.1 204 = .ok (.iload_n 2, 1) := by decide +kernel
theorem dX7_like_205 : decode fX7_like.2.1 205 = .ok (.ifCond .ne 8, 3) := by decide +kernel
theorem dX7_like_208 : decode fX7_like.2.1 208 = .ok (.iload 4, 2) := by decide +kernel
theorem dX7_like_210 : decode fX7_like.2.1 210 = .ok (.goto 10, 3) := by decide +kernel
theorem dX7_like_213 : decode fX7_like.2.1 213 = .ok (.aload_n 0, 1) := by decide +kernel
theorem dX7_like_214 : decode fX7_like.2.1 214 = .ok (.getfield 22, 3) := by decide +kernel
theorem dX7_like_217 : decode fX7_like.2.1 217 = .ok (.iload 4, 2) := by decide +kernel
theorem dX7_like_219 : decode fX7_like.2.1 219 = .ok (.iaload, 1) := by decide +kernel
theorem dX7_like_220 : decode fX7_like.2.1 220 = .ok (.ireturn, 1) := by decide +kernel
set_option maxRecDepth 100000 in
set_option maxHeartbeats 4000000 in
theorem ok_X7_like {X : Xb} {S : Sg} {mi : Mem} {o n t : Nat} {A : Nat → Int32} {lw : LawT} {v w : Int32} (hM : MdA S o) (hZ : MsZ mi o) (hn8 : n ≤ 8) (hA : mi (o + 1) = A) (hn : A 1 = nI n) (ht : A 5 = nI t) (ht14 : t ≤ 14) (hx : MtOk A t) (hl : lwM A 0 t = lw) : Ok 7 0 0 fX7_like X [rf X o, .int v, .int w] S mi (fun r S' m => r = some (.int (mLike mi o n A lw v w)) ∧ S' = S ∧ m (o + 1) = mi (o + 1) ∧ ∀ a, a ≠ o + 1 → a ≠ o + 3 → a ≠ o + 5 → a ≠ o + 12 → a ≠ o + 13 → m a = mi a) := by
  refine Ok.go [some (rf X o), some (.int v), some (.int w), none, none, none, none] (by decide) (by simp [Value.category]) (Nat.le_of_ble_eq_true rfl) rfl ?_
  obtain ⟨k_o, ⟨r_o_now, k_o_now⟩, ⟨r_o_image, k_o_image⟩, ⟨r_o_aside, k_o_aside⟩, ⟨r_o_seen, k_o_seen⟩, ⟨r_o_unlike, k_o_unlike⟩, ⟨r_o_tape, k_o_tape⟩, ⟨r_o_keys, k_o_keys⟩, ⟨r_o_keyAt, k_o_keyAt⟩, ⟨r_o_code, k_o_code⟩, ⟨r_o_waits, k_o_waits⟩, ⟨r_o_tested, k_o_tested⟩, ⟨r_o_stack, k_o_stack⟩, ⟨r_o_facts, k_o_facts⟩, ⟨r_o_sorts, k_o_sorts⟩, ⟨r_o_sizes, k_o_sizes⟩, ⟨r_o_cells, k_o_cells⟩, ⟨r_o_holds, k_o_holds⟩, ⟨r_o_holdsA, k_o_holdsA⟩, ⟨r_o_holdsB, k_o_holdsB⟩, ⟨r_o_heldCells, k_o_heldCells⟩, ⟨r_o_moved, k_o_moved⟩, ⟨r_o_tells, k_o_tells⟩⟩ := id hM
  have z : ∀ a, a ≠ o + 1 → a ≠ o + 3 → a ≠ o + 5 → a ≠ o + 12 → a ≠ o + 13 → mi a = mi a := fun _ _ _ _ _ _ => rfl
  have q1 : (m_cpy mi (o + 1) (o + 3) 0 0 1438) (o + 1) = A := thk_now.trans hA
  have q3 : ∀ j, j < 1438 → (m_cpy mi (o + 1) (o + 3) 0 0 1438) (o + 3) j = mi (o + 1) j := fun j hj => thk_aside hj
  have qa : ∀ a, a ≠ o + 3 → (m_cpy mi (o + 1) (o + 3) 0 0 1438) a = mi a := fun a g => by funext j; simp only [m_cpy, g, false_and, if_false]
  generalize hM1 : (m_cpy mi (o + 1) (o + 3) 0 0 1438) = M1 at q1 q3 qa
  have e195 : ∀ i (u : Int32) (D : Nat → Int32) bst m, bst < 8 → (n ≠ 0 → m (o + 5) bst = D bst) → (n ≠ 0 → bst = amD D n) → m (o + 1) = mi (o + 1) → (∀ a, a ≠ o + 1 → a ≠ o + 3 → a ≠ o + 5 → a ≠ o + 12 → a ≠ o + 13 → m a = mi a) → lkV D n w = mLike mi o n A lw v w → MW X fX7_like (rmOf 7 0 0) 0 0 195 [some (rf X o), some (.int (nI i)), some (.int w), some (.int (nI n)), some (.int (nI bst)), some (.int u), none] [] S m (mQ X 0 0 (fun r S' m => r = some (.int (mLike mi o n A lw v w)) ∧ S' = S ∧ m (o + 1) = mi (o + 1) ∧ ∀ a, a ≠ o + 1 → a ≠ o + 3 → a ≠ o + 5 → a ≠ o + 12 → a ≠ o + 13 → m a = mi a)) := by
    intro i u D bst m hb hD ham hm hF hR
    refine mw_iload_n dX7_like_195 rfl ?_
    refine mw_if_ne (tgt := 204) dX7_like_196 (by decide) (fun h196 => ?_) (fun h196 => ?_)
    · skip
      have hn0 : n ≠ 0 := fun e => h196 (by rw [e]; rfl)
      refine mw_iload_n dX7_like_204 rfl ?_
      refine mw_if_ne (tgt := 213) dX7_like_205 (by decide) (fun h205 => ?_) (fun h205 => ?_)
      · skip
        refine mw_aload_n dX7_like_213 rfl ?_
        refine mw_getr dX7_like_214 fl_X7_22 rfl (by assumption) (by assumption) ?_
        refine mw_iload dX7_like_217 rfl ?_
        refine mw_ialdK (k := bst) dX7_like_219 (by assumption) (rfl) (hb) (by decide) ?_
        exact mw_iret dX7_like_220 rfl (by decide) (by decide) (by first | (have q : n = 0 := (nI_eq (b := 0) (by omega) (by decide)).mp h196; rw [lkV, if_pos q] at hR; exact ⟨by rw [← hR], rfl, hm, hF⟩) | (have q := hn0; have q2 : w = 0 := h205; rw [lkV, if_neg q, if_pos q2, ← ham q] at hR; exact ⟨by rw [← hR], rfl, hm, hF⟩) | (have q := hn0; rw [lkV, if_neg q, if_neg h205, ← ham q] at hR; exact ⟨by rw [← hR, hD q], rfl, hm, hF⟩) | fail "leaf")
      · skip
        skip
        refine mw_iload dX7_like_208 rfl ?_
        refine mw_goto (tgt := 220) dX7_like_210 (by decide) ?_
        exact mw_iret dX7_like_220 rfl (by decide) (by decide) (by first | (have q : n = 0 := (nI_eq (b := 0) (by omega) (by decide)).mp h196; rw [lkV, if_pos q] at hR; exact ⟨by rw [← hR], rfl, hm, hF⟩) | (have q := hn0; have q2 : w = 0 := h205; rw [lkV, if_neg q, if_pos q2, ← ham q] at hR; exact ⟨by rw [← hR], rfl, hm, hF⟩) | (have q := hn0; rw [lkV, if_neg q, if_neg h205, ← ham q] at hR; exact ⟨by rw [← hR, hD q], rfl, hm, hF⟩) | fail "leaf")
    · skip
      refine mw_ldc dX7_like_199 cn_X7_172 ?_
      refine mw_goto (tgt := 220) dX7_like_201 (by decide) ?_
      exact mw_iret dX7_like_220 rfl (by decide) (by decide) (by first | (have q : n = 0 := (nI_eq (b := 0) (by omega) (by decide)).mp h196; rw [lkV, if_pos q] at hR; exact ⟨by rw [← hR], rfl, hm, hF⟩) | (have q := hn0; have q2 : w = 0 := h205; rw [lkV, if_neg q, if_pos q2, ← ham q] at hR; exact ⟨by rw [← hR], rfl, hm, hF⟩) | (have q := hn0; rw [lkV, if_neg q, if_neg h205, ← ham q] at hR; exact ⟨by rw [← hR, hD q], rfl, hm, hF⟩) | fail "leaf")
  have e157 : ∀ i (D : Nat → Int32) m, (∀ j, j < n → m (o + 5) j = D j) → m (o + 1) = mi (o + 1) → (∀ a, a ≠ o + 1 → a ≠ o + 3 → a ≠ o + 5 → a ≠ o + 12 → a ≠ o + 13 → m a = mi a) → lkV D n w = mLike mi o n A lw v w → MW X fX7_like (rmOf 7 0 0) 0 0 157 [some (rf X o), some (.int (nI i)), some (.int w), some (.int (nI n)), some (.int 0), some (.int 1), none] [] S m (mQ X 0 0 (fun r S' m => r = some (.int (mLike mi o n A lw v w)) ∧ S' = S ∧ m (o + 1) = mi (o + 1) ∧ ∀ a, a ≠ o + 1 → a ≠ o + 3 → a ≠ o + 5 → a ≠ o + 12 → a ≠ o + 13 → m a = mi a)) := by
    intro i D m hD hm hF hR
    by_cases c : n = 0
    · have g : nI n ≤ 1 := nI_le (b := 1) (by omega) (by decide)
      refine mw_iload dX7_like_157 rfl ?_
      refine mw_iload_n dX7_like_159 rfl ?_
      refine mw_icmp_ge (tgt := 195) dX7_like_160 (by decide) (fun h160 => ?_) (fun h160 => ?_)
      · skip
        exact e195 i _ D 0 m (by decide) (fun q => absurd c q) (fun q => absurd c q) hm hF hR
      · skip
        exact absurd g h160
    · obtain ⟨b, hb⟩ : ∃ b, n = b + 1 := ⟨n - 1, by omega⟩
      have lp := mw_dn (P := fun k => MW X fX7_like (rmOf 7 0 0) 0 0 157 [some (rf X o), some (.int (nI i)), some (.int w), some (.int (nI n)), some (.int (nI (amD D (k + 1)))), some (.int (nI (k + 1))), none] [] S m (mQ X 0 0 (fun r S' m => r = some (.int (mLike mi o n A lw v w)) ∧ S' = S ∧ m (o + 1) = mi (o + 1) ∧ ∀ a, a ≠ o + 1 → a ≠ o + 3 → a ≠ o + 5 → a ≠ o + 12 → a ≠ o + 13 → m a = mi a))) b (by
        refine mw_iload dX7_like_157 rfl ?_
        refine mw_iload_n dX7_like_159 rfl ?_
        rw [hb]
        refine mw_icmp_ge (tgt := 195) dX7_like_160 (by decide) (fun h160 => ?_) (fun h160 => ?_)
        · skip
          rw [← hb]
          exact MW.sub (by simp [lsub]) (e195 i (nI n) D (amD D n) m (by have := amD_lt D b; rw [hb]; omega) (fun _ => hD _ (by have := amD_lt D b; rw [hb]; omega)) (fun _ => rfl) hm hF hR)
        · skip
          exact absurd (Int32.le_refl _) h160) (fun k hk ih => by
        have ak := amD_lt D k
        refine mw_iload dX7_like_157 rfl ?_
        refine mw_iload_n dX7_like_159 rfl ?_
        refine mw_icmp_ge (tgt := 195) dX7_like_160 (by decide) (fun h160 => ?_) (fun h160 => ?_)
        · skip
          exact absurd h160 (nI_ge (by omega) (by omega))
        · skip
          refine mw_aload_n dX7_like_163 rfl ?_
          refine mw_getr dX7_like_164 fl_X7_22 rfl (by assumption) (by assumption) ?_
          refine mw_iload dX7_like_167 rfl ?_
          refine mw_ialdK (k := k + 1) dX7_like_169 (by assumption) (rfl) (by omega) (by decide) ?_
          rw [hD (k + 1) (by omega)]
          refine mw_aload_n dX7_like_170 rfl ?_
          refine mw_getr dX7_like_171 fl_X7_22 rfl (by assumption) (by assumption) ?_
          refine mw_iload dX7_like_174 rfl ?_
          refine mw_ialdK (k := amD D (k + 1)) dX7_like_176 (by assumption) (rfl) (by omega) (by decide) ?_
          rw [hD (amD D (k + 1)) (by omega)]
          refine mw_icmp_ge (tgt := 185) dX7_like_177 (by decide) (fun h177 => ?_) (fun h177 => ?_)
          · skip
            refine mw_iload dX7_like_185 rfl ?_
            refine mw_istore dX7_like_187 (by decide) ?_
            refine mw_iincK (k := k + 1) dX7_like_189 rfl rfl (by decide) ?_
            refine mw_goto (tgt := 157) dX7_like_192 (by decide) ?_
            refine MW.sub ?_ ih
            rw [show amD D (k + 1 + 1) = if D (k + 1) < D (amD D (k + 1)) then k + 1 else amD D (k + 1) from rfl]
            first
              | (rw [if_neg (Int32.not_lt.mpr h177)]; simp [lsub])
              | (rw [if_pos (Int32.not_le.mp h177)]; simp [lsub])
          · skip
            refine mw_iload dX7_like_180 rfl ?_
            refine mw_goto (tgt := 187) dX7_like_182 (by decide) ?_
            refine mw_istore dX7_like_187 (by decide) ?_
            refine mw_iincK (k := k + 1) dX7_like_189 rfl rfl (by decide) ?_
            refine mw_goto (tgt := 157) dX7_like_192 (by decide) ?_
            refine MW.sub ?_ ih
            rw [show amD D (k + 1 + 1) = if D (k + 1) < D (amD D (k + 1)) then k + 1 else amD D (k + 1) from rfl]
            first
              | (rw [if_neg (Int32.not_lt.mpr h177)]; simp [lsub])
              | (rw [if_pos (Int32.not_le.mp h177)]; simp [lsub]))
      refine MW.sub ?_ lp
      rw [show amD D (0 + 1) = 0 from by simp [amD], show nI (0 + 1) = 1 from rfl, nI_0]
      simp [lsub]
  have e137 : ∀ i u (x6 : Int32), (∀ m, m (o + 1) = mHours lw n A (u + 1) → FrL o M1 m → (∀ j, j < n → m (o + 5) j = lkM (mlkR lw n A) (fun k => mi (o + 16) (24 * i + k)) j (u + 1)) → MW X fX7_like (rmOf 7 0 0) 0 0 68 [some (rf X o), some (.int (nI i)), some (.int w), some (.int (nI n)), some (.int (nI (u + 1))), none, none] [] S m (mQ X 0 0 (fun r S' m => r = some (.int (mLike mi o n A lw v w)) ∧ S' = S ∧ m (o + 1) = mi (o + 1) ∧ ∀ a, a ≠ o + 1 → a ≠ o + 3 → a ≠ o + 5 → a ≠ o + 12 → a ≠ o + 13 → m a = mi a))) → ∀ m, m (o + 1) = mHours lw n A u → FrL o M1 m → (∀ j, j < n → m (o + 5) j = lkM (mlkR lw n A) (fun k => mi (o + 16) (24 * i + k)) j (u + 1)) → ∀ x5 x6, MW X fX7_like (rmOf 7 0 0) 0 0 137 [some (rf X o), some (.int (nI i)), some (.int w), some (.int (nI n)), some (.int (nI u)), x5, x6] [] S m (mQ X 0 0 (fun r S' m => r = some (.int (mLike mi o n A lw v w)) ∧ S' = S ∧ m (o + 1) = mi (o + 1) ∧ ∀ a, a ≠ o + 1 → a ≠ o + 3 → a ≠ o + 5 → a ≠ o + 12 → a ≠ o + 13 → m a = mi a)) := by
    intro i u _ ih m hm hF hD x5 x6
    have e1 : m (o + 1) 1 = nI n := by rw [hm, mHours_lo (by decide) (by decide) (by decide) (by decide) (by decide) (by decide), hn]
    have e5 : m (o + 1) 5 = nI t := by rw [hm, mHours_lo (by decide) (by decide) (by decide) (by decide) (by decide) (by decide), ht]
    have tl : tail66 A (m (o + 1)) := by rw [hm]; exact mHours_hi hn8 u
    have el : lwM (m (o + 1)) 0 t = lw := (lwM_congr tl).trans hl
    refine mw_aload_n dX7_like_137 rfl ?_
    refine mw_callV (g := fX7_hour) dX7_like_138 ml_X7_160 mfX7_hour (ok_X7_hour hM e1 hn8 e5 ht14 (hx.congr tl)) (by assumption) rfl rfl (Nat.le_of_ble_eq_true rfl) ⟨by decide, by decide⟩ ⟨by decide, by decide⟩ (fun r S2 mi2 hp => ?_)
    obtain ⟨rfl, e2, hm3, hf3⟩ := hp
    rw [e2]
    rw [el, hm] at hm3
    refine mw_iincK (k := u) dX7_like_141 rfl rfl (by decide) ?_
    refine mw_goto (tgt := 68) dX7_like_144 (by decide) ?_
    exact MW.sub (by simp [lsub]) (ih _ hm3 (hF.of hf3) (fun j hj => by rw [hf3 (o + 5) (by omega) (by omega) (by omega)]; exact hD j hj))
  have e96 : ∀ i u, (∀ m, m (o + 1) = mHours lw n A (u + 1) → FrL o M1 m → (∀ j, j < n → m (o + 5) j = lkM (mlkR lw n A) (fun k => mi (o + 16) (24 * i + k)) j (u + 1)) → MW X fX7_like (rmOf 7 0 0) 0 0 68 [some (rf X o), some (.int (nI i)), some (.int w), some (.int (nI n)), some (.int (nI (u + 1))), none, none] [] S m (mQ X 0 0 (fun r S' m => r = some (.int (mLike mi o n A lw v w)) ∧ S' = S ∧ m (o + 1) = mi (o + 1) ∧ ∀ a, a ≠ o + 1 → a ≠ o + 3 → a ≠ o + 5 → a ≠ o + 12 → a ≠ o + 13 → m a = mi a))) → ∀ m, m (o + 1) = mHours lw n A u → FrL o M1 m → (∀ j, j < n → m (o + 5) j = lkM (mlkR lw n A) (fun k => mi (o + 16) (24 * i + k)) j u) → MW X fX7_like (rmOf 7 0 0) 0 0 96 [some (rf X o), some (.int (nI i)), some (.int w), some (.int (nI n)), some (.int (nI u)), some (.int (mi (o + 16) (24 * i + u))), some (.int (nI 0))] [] S m (mQ X 0 0 (fun r S' m => r = some (.int (mLike mi o n A lw v w)) ∧ S' = S ∧ m (o + 1) = mi (o + 1) ∧ ∀ a, a ≠ o + 1 → a ≠ o + 3 → a ≠ o + 5 → a ≠ o + 12 → a ≠ o + 13 → m a = mi a)) := by
    intro i u ih0 m0 hm0 hF0 hD0
    by_cases c : mi (o + 16) (24 * i + u) = NONEi
    · have c' : mi (o + 16) (24 * i + u) = -1000000005 := c
      refine mw_iload dX7_like_96 rfl ?_
      refine mw_iload_n dX7_like_98 rfl ?_
      refine mw_icmp_ge (tgt := 137) dX7_like_99 (by decide) (fun h99 => ?_) (fun h99 => ?_)
      · skip
        exact e137 i u 0 ih0 m0 hm0 hF0 (fun j hj => by rw [hD0 j hj]; simp only [lkM, if_pos c]) _ _
      · skip
        refine mw_iload dX7_like_102 rfl ?_
        refine mw_ldc dX7_like_104 cn_X7_172 ?_
        refine mw_icmp_eq (tgt := 137) dX7_like_106 (by decide) (fun h106 => ?_) (fun h106 => ?_)
        · skip
          exact e137 i u 0 ih0 m0 hm0 hF0 (fun j hj => by rw [hD0 j hj]; simp only [lkM, if_pos c]) _ _
        · skip
          exact absurd c' h106
    · have c' : ¬ mi (o + 16) (24 * i + u) = -1000000005 := c
      have lp := mw_dn (P := fun k => ∀ m, m (o + 1) = mHours lw n A u → FrL o M1 m → (∀ j, j < k → m (o + 5) j = lkM (mlkR lw n A) (fun k => mi (o + 16) (24 * i + k)) j (u + 1)) → (∀ j, k ≤ j → j < n → m (o + 5) j = lkM (mlkR lw n A) (fun k => mi (o + 16) (24 * i + k)) j u) → MW X fX7_like (rmOf 7 0 0) 0 0 96 [some (rf X o), some (.int (nI i)), some (.int w), some (.int (nI n)), some (.int (nI u)), some (.int (mi (o + 16) (24 * i + u))), some (.int (nI k))] [] S m (mQ X 0 0 (fun r S' m => r = some (.int (mLike mi o n A lw v w)) ∧ S' = S ∧ m (o + 1) = mi (o + 1) ∧ ∀ a, a ≠ o + 1 → a ≠ o + 3 → a ≠ o + 5 → a ≠ o + 12 → a ≠ o + 13 → m a = mi a))) n (by
        intro m hm hF g1 g2
        refine mw_iload dX7_like_96 rfl ?_
        refine mw_iload_n dX7_like_98 rfl ?_
        refine mw_icmp_ge (tgt := 137) dX7_like_99 (by decide) (fun h99 => ?_) (fun h99 => ?_)
        · skip
          exact e137 i u 0 ih0 m hm hF g1 _ _
        · skip
          exact absurd (Int32.le_refl _) h99) (fun k hk ih => by
        intro m hm hF g1 g2
        have e5 : m (o + 1) 5 = nI t := by rw [hm, mHours_lo (by decide) (by decide) (by decide) (by decide) (by decide) (by decide), ht]
        have tl : tail66 A (m (o + 1)) := by rw [hm]; exact mHours_hi hn8 u
        have el : lwM (m (o + 1)) 0 t = lw := (lwM_congr tl).trans hl
        have dk := g2 k (Nat.le_refl k) hk
        have er : mRent (lwM (m (o + 1)) 0 t) (m (o + 1)) k = mlkR lw n A u k := by rw [el, hm]; rfl
        refine mw_iload dX7_like_96 rfl ?_
        refine mw_iload_n dX7_like_98 rfl ?_
        refine mw_icmp_ge (tgt := 137) dX7_like_99 (by decide) (fun h99 => ?_) (fun h99 => ?_)
        · skip
          first
            | exact absurd h99 (nI_ge hk (by omega))
            | exact absurd h106 c'
            | fail "stop"
        · skip
          refine mw_iload dX7_like_102 rfl ?_
          refine mw_ldc dX7_like_104 cn_X7_172 ?_
          refine mw_icmp_eq (tgt := 137) dX7_like_106 (by decide) (fun h106 => ?_) (fun h106 => ?_)
          · skip
            first
              | exact absurd h99 (nI_ge hk (by omega))
              | exact absurd h106 c'
              | fail "stop"
          · skip
            refine mw_aload_n dX7_like_109 rfl ?_
            refine mw_getr dX7_like_110 fl_X7_22 rfl (by assumption) (by assumption) ?_
            refine mw_iload dX7_like_113 rfl ?_
            refine mw_dup2 dX7_like_115 rfl rfl ?_
            refine mw_ialdK (k := k) dX7_like_116 (by assumption) (rfl) (by omega) (by decide) ?_
            rw [dk]
            refine mw_iload dX7_like_117 rfl ?_
            refine mw_aload_n dX7_like_119 rfl ?_
            refine mw_iload dX7_like_120 rfl ?_
            refine mw_callV (g := fX7_rentOf) dX7_like_122 ml_X7_135 mfX7_rentOf (ok_X7_rentOf hM (a := k) (by omega) e5 ht14 (hx.congr tl)) (by assumption) rfl rfl (Nat.le_of_ble_eq_true rfl) ⟨by decide, by decide⟩ ⟨by decide, by decide⟩ (fun r S2 mi2 hp => ?_)
            obtain ⟨rfl, e1, hs3⟩ := hp
            rw [e1, er]
            refine mw_isub dX7_like_125 ?_
            refine mw_cSI (g := fX7_off) dX7_like_126 ml_X7_191 mfX7_off (ok_X7_off) rfl rfl (Nat.le_of_ble_eq_true rfl) ⟨by decide, by decide⟩ ⟨by decide, by decide⟩ ?_
            rw [offI_eq]
            refine mw_iadd dX7_like_129 ?_
            refine mw_iastK (k := k) dX7_like_130 (by assumption) (rfl) (by omega) (by decide) ?_
            refine mw_iincK (k := k) dX7_like_131 rfl rfl (by decide) ?_
            refine mw_goto (tgt := 96) dX7_like_134 (by decide) ?_
            refine MW.sub (by simp [lsub]) (ih _ (by rw [m_up_ne (by omega), hs3 (o + 1) (by omega) (by omega)]; exact hm) (fun a r1 r2 r3 r4 => by rw [m_up_ne r2, hs3 a r3 r4]; exact hF a r1 r2 r3 r4) (fun j hj => ?_) (fun j h3 h4 => ?_))
            · by_cases cc : j = k
              · subst cc; rw [m_up_at]; simp only [lkM, if_neg c]
              · rw [m_up_of cc, hs3 (o + 5) (by omega) (by omega)]; exact g1 j (by omega)
            · rw [m_up_of (by omega), hs3 (o + 5) (by omega) (by omega)]; exact g2 j (by omega) h4)
      exact lp m0 hm0 hF0 (fun j hj => absurd hj (Nat.not_lt_zero j)) (fun j _ hj => hD0 j hj)
  have e68 : ∀ i, i < 4 → ∀ z, z ≤ 24 → mi (o + 15) i = nI z → lkV (fun j => lkM (mlkR lw n A) (fun k => mi (o + 16) (24 * i + k)) j z) n w = mLike mi o n A lw v w → ∀ m, m (o + 1) = A → FrL o M1 m → (∀ j, j < n → m (o + 5) j = 0) → MW X fX7_like (rmOf 7 0 0) 0 0 68 [some (rf X o), some (.int (nI i)), some (.int w), some (.int (nI n)), some (.int (nI 0)), none, none] [] S m (mQ X 0 0 (fun r S' m => r = some (.int (mLike mi o n A lw v w)) ∧ S' = S ∧ m (o + 1) = mi (o + 1) ∧ ∀ a, a ≠ o + 1 → a ≠ o + 3 → a ≠ o + 5 → a ≠ o + 12 → a ≠ o + 13 → m a = mi a)) := by
    intro i hi z z24 hz hR
    have lp := mw_dn (P := fun k => ∀ m, m (o + 1) = mHours lw n A k → FrL o M1 m → (∀ j, j < n → m (o + 5) j = lkM (mlkR lw n A) (fun k => mi (o + 16) (24 * i + k)) j k) → MW X fX7_like (rmOf 7 0 0) 0 0 68 [some (rf X o), some (.int (nI i)), some (.int w), some (.int (nI n)), some (.int (nI k)), none, none] [] S m (mQ X 0 0 (fun r S' m => r = some (.int (mLike mi o n A lw v w)) ∧ S' = S ∧ m (o + 1) = mi (o + 1) ∧ ∀ a, a ≠ o + 1 → a ≠ o + 3 → a ≠ o + 5 → a ≠ o + 12 → a ≠ o + 13 → m a = mi a))) z (by
      intro m hm hF hD
      have e15 : m (o + 15) i = nI z := by rw [hF (o + 15) (by omega) (by omega) (by omega) (by omega), qa (o + 15) (by omega)]; exact hz
      have p1 : m_cpy m (o + 3) (o + 1) 0 0 1438 (o + 1) = mi (o + 1) := by
        funext j
        by_cases c : j < 1438
        · simp only [m_cpy, true_and, Nat.zero_le, Nat.zero_add, c, if_true, Nat.sub_zero]
          rw [hF (o + 3) (by omega) (by omega) (by omega) (by omega)]; exact q3 j c
        · simp only [m_cpy, Nat.zero_add, c, and_false, if_false]
          rw [hm, hA]; exact mHours_hi hn8 z j (by omega)
      have p2 : ∀ a, a ≠ o + 1 → m_cpy m (o + 3) (o + 1) 0 0 1438 a = m a := fun a g => by funext j; simp only [m_cpy, g, false_and, if_false]
      refine mw_iload dX7_like_68 rfl ?_
      refine mw_aload_n dX7_like_70 rfl ?_
      refine mw_getr dX7_like_71 fl_X7_54 rfl (by assumption) (by assumption) ?_
      refine mw_iload_n dX7_like_74 rfl ?_
      refine mw_ialdK (k := i) dX7_like_75 (by assumption) (rfl) (by omega) (by decide) ?_
      rw [e15]
      refine mw_icmp_ge (tgt := 147) dX7_like_76 (by decide) (fun h76 => ?_) (fun h76 => ?_)
      · skip
        refine mw_aload_n dX7_like_147 rfl ?_
        refine mw_cVV (g := fX7_putsBack) dX7_like_148 ml_X7_180 mfX7_putsBack (ok_X7_putsBack hM) (by assumption) rfl rfl (Nat.le_of_ble_eq_true rfl) ⟨by decide, by decide⟩ ⟨by decide, by decide⟩ ?_
        refine mw_iconst (v := 0) dX7_like_151 (by decide) ?_
        refine mw_istore dX7_like_152 (by decide) ?_
        refine mw_iconst (v := 1) dX7_like_154 (by decide) ?_
        refine mw_istore dX7_like_155 (by decide) ?_
        exact MW.sub (by simp [lsub]) (e157 i _ _ (fun j hj => by rw [p2 (o + 5) (by omega)]; exact hD j hj) p1 (fun a g1 g3 g5 g12 g13 => by rw [p2 a g1, hF a g1 g5 g12 g13]; exact qa a g3) hR)
      · skip
        exact absurd (Int32.le_refl _) h76) (fun k hk ih => by
      intro m hm hF hD
      have e15 : m (o + 15) i = nI z := by rw [hF (o + 15) (by omega) (by omega) (by omega) (by omega), qa (o + 15) (by omega)]; exact hz
      have e16 : m (o + 16) (24 * i + k) = mi (o + 16) (24 * i + k) := by rw [hF (o + 16) (by omega) (by omega) (by omega) (by omega), qa (o + 16) (by omega)]
      refine mw_iload dX7_like_68 rfl ?_
      refine mw_aload_n dX7_like_70 rfl ?_
      refine mw_getr dX7_like_71 fl_X7_54 rfl (by assumption) (by assumption) ?_
      refine mw_iload_n dX7_like_74 rfl ?_
      refine mw_ialdK (k := i) dX7_like_75 (by assumption) (rfl) (by omega) (by decide) ?_
      rw [e15]
      refine mw_icmp_ge (tgt := 147) dX7_like_76 (by decide) (fun h76 => ?_) (fun h76 => ?_)
      · skip
        exact absurd h76 (nI_ge hk (by omega))
      · skip
        refine mw_aload_n dX7_like_79 rfl ?_
        refine mw_getr dX7_like_80 fl_X7_57 rfl (by assumption) (by assumption) ?_
        refine mw_bipush (v := 24) dX7_like_83 (by decide) ?_
        refine mw_iload_n dX7_like_85 rfl ?_
        refine mw_imul dX7_like_86 ?_
        refine mw_iload dX7_like_87 rfl ?_
        refine mw_iadd dX7_like_89 ?_
        rw [ix24]
        refine mw_ialdK (k := 24 * i + k) dX7_like_90 (by assumption) (rfl) (by omega) (by decide) ?_
        rw [e16]
        refine mw_istore dX7_like_91 (by decide) ?_
        refine mw_iconst (v := 0) dX7_like_93 (by decide) ?_
        refine mw_istore dX7_like_94 (by decide) ?_
        exact MW.sub (by simp [lsub, nI_0]) (e96 i k ih m hm hF hD))
    exact lp
  have e45 : ∀ i, i < 4 → ∀ z, z ≤ 24 → mi (o + 15) i = nI z → lkV (fun j => lkM (mlkR lw n A) (fun k => mi (o + 16) (24 * i + k)) j z) n w = mLike mi o n A lw v w → MW X fX7_like (rmOf 7 0 0) 0 0 45 [some (rf X o), some (.int (nI i)), some (.int w), some (.int (nI n)), some (.int (nI 0)), none, none] [] S M1 (mQ X 0 0 (fun r S' m => r = some (.int (mLike mi o n A lw v w)) ∧ S' = S ∧ m (o + 1) = mi (o + 1) ∧ ∀ a, a ≠ o + 1 → a ≠ o + 3 → a ≠ o + 5 → a ≠ o + 12 → a ≠ o + 13 → m a = mi a)) := by
    intro i hi z z24 hz hR
    have lp := mw_dn (P := fun k => ∀ m, (∀ a, a ≠ o + 5 → m a = M1 a) → (∀ j, j < k → m (o + 5) j = 0) → MW X fX7_like (rmOf 7 0 0) 0 0 45 [some (rf X o), some (.int (nI i)), some (.int w), some (.int (nI n)), some (.int (nI k)), none, none] [] S m (mQ X 0 0 (fun r S' m => r = some (.int (mLike mi o n A lw v w)) ∧ S' = S ∧ m (o + 1) = mi (o + 1) ∧ ∀ a, a ≠ o + 1 → a ≠ o + 3 → a ≠ o + 5 → a ≠ o + 12 → a ≠ o + 13 → m a = mi a))) n (by
      intro m hm hd
      refine mw_iload dX7_like_45 rfl ?_
      refine mw_iload_n dX7_like_47 rfl ?_
      refine mw_icmp_ge (tgt := 65) dX7_like_48 (by decide) (fun h48 => ?_) (fun h48 => ?_)
      · skip
        refine mw_iconst (v := 0) dX7_like_65 (by decide) ?_
        refine mw_istore dX7_like_66 (by decide) ?_
        exact MW.sub (by simp [lsub, nI_0]) (e68 i hi z z24 hz hR m (by rw [hm (o + 1) (by omega)]; exact q1) (fun a _ g2 _ _ => hm a g2) hd)
      · skip
        exact absurd (Int32.le_refl _) h48) (fun k hk ih => by
      intro m hm hd
      refine mw_iload dX7_like_45 rfl ?_
      refine mw_iload_n dX7_like_47 rfl ?_
      refine mw_icmp_ge (tgt := 65) dX7_like_48 (by decide) (fun h48 => ?_) (fun h48 => ?_)
      · skip
        exact absurd h48 (nI_ge hk (by omega))
      · skip
        refine mw_aload_n dX7_like_51 rfl ?_
        refine mw_getr dX7_like_52 fl_X7_22 rfl (by assumption) (by assumption) ?_
        refine mw_iload dX7_like_55 rfl ?_
        refine mw_iconst (v := 0) dX7_like_57 (by decide) ?_
        refine mw_iastK (k := k) dX7_like_58 (by assumption) (rfl) (by omega) (by decide) ?_
        refine mw_iincK (k := k) dX7_like_59 rfl rfl (by decide) ?_
        refine mw_goto (tgt := 45) dX7_like_62 (by decide) ?_
        refine MW.sub (by simp [lsub]) (ih _ (fun a ha => by rw [m_up_ne ha]; exact hm a ha) (fun j hj => ?_))
        by_cases c : j = k
        · subst c; rw [m_up_at]
        · rw [m_up_of c]; exact hd j (by omega))
    exact lp M1 (fun _ _ => rfl) (fun j hj => absurd hj (Nat.not_lt_zero j))
  refine mw_iload_n dX7_like_0 rfl ?_
  refine mw_cSI (g := fX7_isSheet) dX7_like_1 ml_X7_187 mfX7_isSheet (ok_X7_isSheet) rfl rfl (Nat.le_of_ble_eq_true rfl) ⟨by decide, by decide⟩ ⟨by decide, by decide⟩ ?_
  refine mw_if_eqB (tgt := 16) dX7_like_4 (by decide) (fun h4 => ?_) (fun h4 => ?_)
  · skip
    refine mw_ldc dX7_like_16 cn_X7_127 ?_
    exact mw_iret dX7_like_18 rfl (by decide) (by decide) (⟨by rw [mLike, if_neg (by grind)], rfl, rfl, z⟩)
  · skip
    refine mw_iload_n dX7_like_7 rfl ?_
    refine mw_iconst (v := 0) dX7_like_8 (by decide) ?_
    refine mw_iconst (v := 1) dX7_like_9 (by decide) ?_
    refine mw_cSI (g := fX7_in) dX7_like_10 ml_X7_78 mfX7_in (ok_X7_in) rfl rfl (Nat.le_of_ble_eq_true rfl) ⟨by decide, by decide⟩ ⟨by decide, by decide⟩ ?_
    refine mw_if_neB (tgt := 19) dX7_like_13 (by decide) (fun h13 => ?_) (fun h13 => ?_)
    · skip
      obtain ⟨i, hi, hv⟩ := inB 3 (by decide) h4
      have ev : v.toNatClampNeg = i := by rw [hv, nI_clamp (by omega)]
      obtain ⟨y, y24, hy⟩ := hZ i (by omega)
      refine mw_aload_n dX7_like_19 rfl ?_
      refine mw_getr dX7_like_20 fl_X7_51 rfl (by assumption) (by assumption) ?_
      refine mw_iload_n dX7_like_23 rfl ?_
      refine mw_ialdK (k := i) dX7_like_24 (by assumption) (hv) (by omega) (by decide) ?_
      refine mw_if_ge (tgt := 31) dX7_like_25 (by decide) (fun h25 => ?_) (fun h25 => ?_)
      · skip
        refine mw_aload_n dX7_like_31 rfl ?_
        refine mw_cVV (g := fX7_thinks) dX7_like_32 ml_X7_177 mfX7_thinks (ok_X7_thinks hM) (by assumption) rfl rfl (Nat.le_of_ble_eq_true rfl) ⟨by decide, by decide⟩ ⟨by decide, by decide⟩ ?_
        rw [hM1]
        refine mw_aload_n dX7_like_35 rfl ?_
        refine mw_getr dX7_like_36 fl_X7_9 rfl (by assumption) (by assumption) ?_
        refine mw_iconst (v := 1) dX7_like_39 (by decide) ?_
        refine mw_ialdK (k := 1) dX7_like_40 (by assumption) (rfl) (by decide) (by decide) ?_
        rw [show M1 (o + 1) 1 = nI n from by rw [q1, hn]]
        refine mw_istN 3 dX7_like_41 rfl (by decide) ?_
        refine mw_iconst (v := 0) dX7_like_42 (by decide) ?_
        refine mw_istore dX7_like_43 (by decide) ?_
        have gg := e45 i (by omega) y y24 hy (by rw [mLike, if_pos ⟨h4, h13⟩, ev, if_neg (Int32.not_lt.mpr h25), hy, nI_clamp (by omega)])
        rw [← hv] at gg
        exact MW.sub (by simp [lsub, nI_0]) gg
      · skip
        refine mw_ldc dX7_like_28 cn_X7_190 ?_
        exact mw_iret dX7_like_30 rfl (by decide) (by decide) (⟨by rw [mLike, if_pos ⟨h4, h13⟩, ev, if_pos (Int32.not_le.mp h25)], rfl, rfl, z⟩)
    · skip
      refine mw_ldc dX7_like_16 cn_X7_127 ?_
      exact mw_iret dX7_like_18 rfl (by decide) (by decide) (⟨by rw [mLike, if_neg (by grind)], rfl, rfl, z⟩)
