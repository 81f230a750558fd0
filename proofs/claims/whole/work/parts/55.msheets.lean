/-! the model: cover, feed, sheet, mark, copy -/
def viewM (vw : Nat → Int32) (n : Nat) (j : Int32) : Int32 := fld (fun s i => s ||| (if j >>> (nI i &&& 31) &&& 1 = 1 then vw i else 0)) 0 n
def covM (vw : Nat → Int32) (n : Nat) (stars : Int32) : Nat → Int32
  | 0 => NONEi
  | s + 1 => if stars &&& (viewM vw n (nI s) ^^^ (-1)) = 0 ∧ (covM vw n stars s = NONEi ∨ popI (nI s) < popI (covM vw n stars s)) then nI s else covM vw n stars s
def mCover (A : Nat → Int32) (n : Nat) (v : Int32) : Int32 := if 0 ≤ v ∧ v ≤ 255 then covM (fun i => rSees A i) n v (2 ^ n) else BADi
theorem dX7_cover_0 : decode fX7_cover.2.1 0 = .ok (.iload_n 1, 1) := by decide +kernel
theorem dX7_cover_1 : decode fX7_cover.2.1 1 = .ok (.iconst 0, 1) := by decide +kernel
theorem dX7_cover_2 : decode fX7_cover.2.1 2 = .ok (.sipush 255, 3) := by decide +kernel
theorem dX7_cover_5 : decode fX7_cover.2.1 5 = .ok (.invokestatic 78, 3) := by decide +kernel
theorem dX7_cover_8 : decode fX7_cover.2.1 8 = .ok (.ifCond .ne 6, 3) := by decide +kernel
theorem dX7_cover_11 : decode fX7_cover.2.1 11 = .ok (.ldc 127, 2) := by decide +kernel
theorem dX7_cover_13 : decode fX7_cover.2.1 13 = .ok (.ireturn, 1) := by decide +kernel
theorem dX7_cover_14 : decode fX7_cover.2.1 14 = .ok (.iconst 0, 1) := by decide +kernel
theorem dX7_cover_15 : decode fX7_cover.2.1 15 = .ok (.istore_n 2, 1) := by decide +kernel
theorem dX7_cover_16 : decode fX7_cover.2.1 16 = .ok (.iload_n 2, 1) := by decide +kernel
theorem dX7_cover_17 : decode fX7_cover.2.1 17 = .ok (.aload_n 0, 1) := by decide +kernel
theorem dX7_cover_18 : decode fX7_cover.2.1 18 = .ok (.getfield 9, 3) := by decide +kernel
theorem dX7_cover_21 : decode fX7_cover.2.1 21 = .ok (.iconst 1, 1) := by decide +kernel
theorem dX7_cover_22 : decode fX7_cover.2.1 22 = .ok (.iaload, 1) := by decide +kernel
theorem dX7_cover_23 : decode fX7_cover.2.1 23 = .ok (.if_icmp .ge 20, 3) := by decide +kernel
theorem dX7_cover_26 : decode fX7_cover.2.1 26 = .ok (.aload_n 0, 1) := by decide +kernel
theorem dX7_cover_27 : decode fX7_cover.2.1 27 = .ok (.getfield 19, 3) := by decide +kernel
theorem dX7_cover_30 : decode fX7_cover.2.1 30 = .ok (.iload_n 2, 1) := by decide +kernel
theorem dX7_cover_31 : decode fX7_cover.2.1 31 = .ok (.aload_n 0, 1) := by decide +kernel
theorem dX7_cover_32 : decode fX7_cover.2.1 32 = .ok (.iload_n 2, 1) := by decide +kernel
theorem dX7_cover_33 : decode fX7_cover.2.1 33 = .ok (.invokevirtual 104, 3) := by decide +kernel
theorem dX7_cover_36 : decode fX7_cover.2.1 36 = .ok (.iastore, 1) := by decide +kernel
theorem dX7_cover_37 : decode fX7_cover.2.1 37 = .ok (.iinc 2 1, 3) := by decide +kernel
theorem dX7_cover_40 : decode fX7_cover.2.1 40 = .ok (.goto (-24), 3) := by decide +kernel
theorem dX7_cover_43 : decode fX7_cover.2.1 43 = .ok (.ldc 172, 2) := by decide +kernel
theorem dX7_cover_45 : decode fX7_cover.2.1 45 = .ok (.istore_n 2, 1) := by decide +kernel
theorem dX7_cover_46 : decode fX7_cover.2.1 46 = .ok (.iconst 0, 1) := by decide +kernel
theorem dX7_cover_47 : decode fX7_cover.2.1 47 = .ok (.istore_n 3, 1) := by decide +kernel
theorem dX7_cover_48 : decode fX7_cover.2.1 48 = .ok (.iload_n 3, 1) := by decide +kernel
theorem dX7_cover_49 : decode fX7_cover.2.1 49 = .ok (.iconst 1, 1) := by decide +kernel
theorem dX7_cover_50 : decode fX7_cover.2.1 50 = .ok (.aload_n 0, 1) := by decide +kernel
theorem dX7_cover_51 : decode fX7_cover.2.1 51 = .ok (.getfield 9, 3) := by decide +kernel
theorem dX7_cover_54 : decode fX7_cover.2.1 54 = .ok (.iconst 1, 1) := by decide +kernel
theorem dX7_cover_55 : decode fX7_cover.2.1 55 = .ok (.iaload, 1) := by decide +kernel
theorem dX7_cover_56 : decode fX7_cover.2.1 56 = .ok (.ishl, 1) := by decide +kernel
theorem dX7_cover_57 : decode fX7_cover.2.1 57 = .ok (.if_icmp .ge 90, 3) := by decide +kernel
theorem dX7_cover_60 : decode fX7_cover.2.1 60 = .ok (.iconst 0, 1) := by decide +kernel
theorem dX7_cover_61 : decode fX7_cover.2.1 61 = .ok (.istore 4, 2) := by decide +kernel
theorem dX7_cover_63 : decode fX7_cover.2.1 63 = .ok (.iconst 0, 1) := by decide +kernel
theorem dX7_cover_64 : decode fX7_cover.2.1 64 = .ok (.istore 5, 2) := by decide +kernel
theorem dX7_cover_66 : decode fX7_cover.2.1 66 = .ok (.iload 5, 2) := by decide +kernel
theorem dX7_cover_68 : decode fX7_cover.2.1 68 = .ok (.aload_n 0, 1) := by decide +kernel
theorem dX7_cover_69 : decode fX7_cover.2.1 69 = .ok (.getfield 9, 3) := by decide +kernel
theorem dX7_cover_72 : decode fX7_cover.2.1 72 = .ok (.iconst 1, 1) := by decide +kernel
theorem dX7_cover_73 : decode fX7_cover.2.1 73 = .ok (.iaload, 1) := by decide +kernel
theorem dX7_cover_74 : decode fX7_cover.2.1 74 = .ok (.if_icmp .ge 35, 3) := by decide +kernel
theorem dX7_cover_77 : decode fX7_cover.2.1 77 = .ok (.iload 4, 2) := by decide +kernel
theorem dX7_cover_79 : decode fX7_cover.2.1 79 = .ok (.iload_n 3, 1) := by decide +kernel
theorem dX7_cover_80 : decode fX7_cover.2.1 80 = .ok (.iload 5, 2) := by decide +kernel
theorem dX7_cover_82 : decode fX7_cover.2.1 82 = .ok (.ishr, 1) := by decide +kernel
theorem dX7_cover_83 : decode fX7_cover.2.1 83 = .ok (.iconst 1, 1) := by decide +kernel
theorem dX7_cover_84 : decode fX7_cover.2.1 84 = .ok (.iand, 1) := by decide +kernel
theorem dX7_cover_85 : decode fX7_cover.2.1 85 = .ok (.iconst 1, 1) := by decide +kernel
theorem dX7_cover_86 : decode fX7_cover.2.1 86 = .ok (.if_icmp .ne 13, 3) := by decide +kernel
theorem dX7_cover_89 : decode fX7_cover.2.1 89 = .ok (.aload_n 0, 1) := by decide +kernel
theorem dX7_cover_90 : decode fX7_cover.2.1 90 = .ok (.getfield 19, 3) := by decide +kernel
theorem dX7_cover_93 : decode fX7_cover.2.1 93 = .ok (.iload 5, 2) := by decide +kernel
theorem dX7_cover_95 : decode fX7_cover.2.1 95 = .ok (.iaload, 1) := by decide +kernel
theorem dX7_cover_96 : decode fX7_cover.2.1 96 = .ok (.goto 4, 3) := by decide +kernel
theorem dX7_cover_99 : decode fX7_cover.2.1 99 = .ok (.iconst 0, 1) := by decide +kernel
theorem dX7_cover_100 : decode fX7_cover.2.1 100 = .ok (.ior, 1) := by decide +kernel
theorem dX7_cover_101 : decode fX7_cover.2.1 101 = .ok (.istore 4, 2) := by decide +kernel
theorem dX7_cover_103 : decode fX7_cover.2.1 103 = .ok (.iinc 5 1, 3) := by decide +kernel
theorem dX7_cover_106 : decode fX7_cover.2.1 106 = .ok (.goto (-40), 3) := by decide +kernel
theorem dX7_cover_109 : decode fX7_cover.2.1 109 = .ok (.iload_n 1, 1) := by decide +kernel
theorem dX7_cover_110 : decode fX7_cover.2.1 110 = .ok (.iload 4, 2) := by decide +kernel
theorem dX7_cover_112 : decode fX7_cover.2.1 112 = .ok (.iconst (-1), 1) := by decide +kernel
theorem dX7_cover_113 : decode fX7_cover.2.1 113 = .ok (.ixor, 1) := by decide +kernel
theorem dX7_cover_114 : decode fX7_cover.2.1 114 = .ok (.iand, 1) := by decide +kernel
theorem dX7_cover_115 : decode fX7_cover.2.1 115 = .ok (.ifCond .ne 24, 3) := by decide +kernel
theorem dX7_cover_118 : decode fX7_cover.2.1 118 = .ok (.iload_n 2, 1) := by decide +kernel
theorem dX7_cover_119 : decode fX7_cover.2.1 119 = .ok (.ldc 172, 2) := by decide +kernel
theorem dX7_cover_121 : decode fX7_cover.2.1 121 = .ok (.if_icmp .eq 14, 3) := by decide +kernel
theorem dX7_cover_124 : decode fX7_cover.2.1 124 = .ok (.iload_n 3, 1) := by decide +kernel
theorem dX7_cover_125 : decode fX7_cover.2.1 125 = .ok (.invokestatic 113, 3) := by decide +kernel
theorem dX7_cover_128 : decode fX7_cover.2.1 128 = .ok (.iload_n 2, 1) := by decide +kernel
theorem dX7_cover_129 : decode fX7_cover.2.1 129 = .ok (.invokestatic 113, 3) := by decide +kernel
theorem dX7_cover_132 : decode fX7_cover.2.1 132 = .ok (.if_icmp .ge 7, 3) := by decide +kernel
theorem dX7_cover_135 : decode fX7_cover.2.1 135 = .ok (.iload_n 3, 1) := by decide +kernel
theorem dX7_cover_136 : decode fX7_cover.2.1 136 = .ok (.goto 4, 3) := by decide +kernel
theorem dX7_cover_139 : decode fX7_cover.2.1 139 = .ok (.iload_n 2, 1) := by decide +kernel
theorem dX7_cover_140 : decode fX7_cover.2.1 140 = .ok (.istore_n 2, 1) := by decide +kernel
theorem dX7_cover_141 : decode fX7_cover.2.1 141 = .ok (.iinc 3 1, 3) := by decide +kernel
theorem dX7_cover_144 : decode fX7_cover.2.1 144 = .ok (.goto (-96), 3) := by decide +kernel
theorem dX7_cover_147 : decode fX7_cover.2.1 147 = .ok (.iload_n 2, 1) := by decide +kernel
theorem dX7_cover_148 : decode fX7_cover.2.1 148 = .ok (.ireturn, 1) := by decide +kernel
set_option maxRecDepth 100000 in
set_option maxHeartbeats 4000000 in
theorem ok_X7_cover {X : Xb} {S : Sg} {mi : Mem} {o n : Nat} {A : Nat → Int32} {v : Int32} (hM : MdA S o) (hn8 : n ≤ 8) (hA : mi (o + 1) = A) (hn : A 1 = nI n) : Ok 4 0 0 fX7_cover X [rf X o, .int v] S mi (fun r S' m => r = some (.int (mCover A n v)) ∧ S' = S ∧ ∀ a, a ≠ o + 4 → m a = mi a) := by
  refine Ok.go [some (rf X o), some (.int v), none, none, none, none] (by decide) (by simp [Value.category]) (Nat.le_of_ble_eq_true rfl) rfl ?_
  obtain ⟨k_o, ⟨r_o_now, k_o_now⟩, ⟨r_o_image, k_o_image⟩, ⟨r_o_aside, k_o_aside⟩, ⟨r_o_seen, k_o_seen⟩, ⟨r_o_unlike, k_o_unlike⟩, ⟨r_o_tape, k_o_tape⟩, ⟨r_o_keys, k_o_keys⟩, ⟨r_o_keyAt, k_o_keyAt⟩, ⟨r_o_code, k_o_code⟩, ⟨r_o_waits, k_o_waits⟩, ⟨r_o_tested, k_o_tested⟩, ⟨r_o_stack, k_o_stack⟩, ⟨r_o_facts, k_o_facts⟩, ⟨r_o_sorts, k_o_sorts⟩, ⟨r_o_sizes, k_o_sizes⟩, ⟨r_o_cells, k_o_cells⟩, ⟨r_o_holds, k_o_holds⟩, ⟨r_o_holdsA, k_o_holdsA⟩, ⟨r_o_holdsB, k_o_holdsB⟩, ⟨r_o_heldCells, k_o_heldCells⟩, ⟨r_o_moved, k_o_moved⟩, ⟨r_o_tells, k_o_tells⟩⟩ := id hM
  have h2n : 2 ^ n ≤ 256 := by have := Nat.pow_le_pow_right (show 0 < 2 by decide) hn8; omega
  have p2 : (0 ≤ v ∧ v ≤ 255) → ∀ m, (∀ a, a ≠ o + 4 → m a = mi a) → (∀ i, i < n → m (o + 4) i = rSees A i) → MW X fX7_cover (rmOf 4 0 0) 0 0 48 [some (rf X o), some (.int v), some (.int NONEi), some (.int (nI 0)), none, none] [] S m (mQ X 0 0 (fun r S' m => r = some (.int (mCover A n v)) ∧ S' = S ∧ ∀ a, a ≠ o + 4 → m a = mi a)) := by
    intro hv m hm hs
    have e1 : m (o + 1) 1 = nI n := by rw [hm (o + 1) (by omega), hA, hn]
    have s109 : ∀ s, MW X fX7_cover (rmOf 4 0 0) 0 0 48 [some (rf X o), some (.int v), some (.int (covM (fun i => rSees A i) n v (s + 1))), some (.int (nI (s + 1))), none, none] [] S m (mQ X 0 0 (fun r S' m => r = some (.int (mCover A n v)) ∧ S' = S ∧ ∀ a, a ≠ o + 4 → m a = mi a)) → MW X fX7_cover (rmOf 4 0 0) 0 0 109 [some (rf X o), some (.int v), some (.int (covM (fun i => rSees A i) n v s)), some (.int (nI s)), some (.int (viewM (fun i => rSees A i) n (nI s))), none] [] S m (mQ X 0 0 (fun r S' m => r = some (.int (mCover A n v)) ∧ S' = S ∧ ∀ a, a ≠ o + 4 → m a = mi a)) := by
      intro s ih
      refine mw_iload_n dX7_cover_109 rfl ?_
      refine mw_iload dX7_cover_110 rfl ?_
      refine mw_iconst (v := (-1)) dX7_cover_112 (by decide) ?_
      refine mw_ixor dX7_cover_113 ?_
      refine mw_iand dX7_cover_114 ?_
      refine mw_if_ne (tgt := 139) dX7_cover_115 (by decide) (fun h115 => ?_) (fun h115 => ?_)
      · skip
        refine mw_iload_n dX7_cover_139 rfl ?_
        refine mw_istN 2 dX7_cover_140 rfl (by decide) ?_
        refine mw_iincK (k := s) dX7_cover_141 rfl rfl (by decide) ?_
        refine mw_goto (tgt := 48) dX7_cover_144 (by decide) ?_
        refine MW.sub ?_ ih
        simp only [covM]
        first
          | (have q : popI (covM (fun i => rSees A i) n v s) ≤ popI (nI s) := h132; rw [if_neg (fun g => g.2.elim h121 (fun p => absurd p (Int32.not_lt.mpr q)))]; simp [lsub])
          | (have q : popI (nI s) < popI (covM (fun i => rSees A i) n v s) := Int32.not_le.mp h132; rw [if_pos (And.intro h115 (Or.inr q))]; simp [lsub])
          | (have q : covM (fun i => rSees A i) n v s = NONEi := h121; rw [if_pos (And.intro h115 (Or.inl q))]; simp [lsub])
          | (rw [if_neg (fun g => h115 g.1)]; simp [lsub])
          | fail "s48"
      · skip
        refine mw_iload_n dX7_cover_118 rfl ?_
        refine mw_ldc dX7_cover_119 cn_X7_172 ?_
        refine mw_icmp_eq (tgt := 135) dX7_cover_121 (by decide) (fun h121 => ?_) (fun h121 => ?_)
        · skip
          refine mw_iload_n dX7_cover_135 rfl ?_
          refine mw_goto (tgt := 140) dX7_cover_136 (by decide) ?_
          refine mw_istN 2 dX7_cover_140 rfl (by decide) ?_
          refine mw_iincK (k := s) dX7_cover_141 rfl rfl (by decide) ?_
          refine mw_goto (tgt := 48) dX7_cover_144 (by decide) ?_
          refine MW.sub ?_ ih
          simp only [covM]
          first
            | (have q : popI (covM (fun i => rSees A i) n v s) ≤ popI (nI s) := h132; rw [if_neg (fun g => g.2.elim h121 (fun p => absurd p (Int32.not_lt.mpr q)))]; simp [lsub])
            | (have q : popI (nI s) < popI (covM (fun i => rSees A i) n v s) := Int32.not_le.mp h132; rw [if_pos (And.intro h115 (Or.inr q))]; simp [lsub])
            | (have q : covM (fun i => rSees A i) n v s = NONEi := h121; rw [if_pos (And.intro h115 (Or.inl q))]; simp [lsub])
            | (rw [if_neg (fun g => h115 g.1)]; simp [lsub])
            | fail "s48"
        · skip
          refine mw_iload_n dX7_cover_124 rfl ?_
          refine mw_cSI (g := fX7_bits) dX7_cover_125 ml_X7_113 mfX7_bits (ok_X7_bits) rfl rfl (Nat.le_of_ble_eq_true rfl) ⟨by decide, by decide⟩ ⟨by decide, by decide⟩ ?_
          refine mw_iload_n dX7_cover_128 rfl ?_
          refine mw_cSI (g := fX7_bits) dX7_cover_129 ml_X7_113 mfX7_bits (ok_X7_bits) rfl rfl (Nat.le_of_ble_eq_true rfl) ⟨by decide, by decide⟩ ⟨by decide, by decide⟩ ?_
          refine mw_icmp_ge (tgt := 139) dX7_cover_132 (by decide) (fun h132 => ?_) (fun h132 => ?_)
          · skip
            refine mw_iload_n dX7_cover_139 rfl ?_
            refine mw_istN 2 dX7_cover_140 rfl (by decide) ?_
            refine mw_iincK (k := s) dX7_cover_141 rfl rfl (by decide) ?_
            refine mw_goto (tgt := 48) dX7_cover_144 (by decide) ?_
            refine MW.sub ?_ ih
            simp only [covM]
            first
              | (have q : popI (covM (fun i => rSees A i) n v s) ≤ popI (nI s) := h132; rw [if_neg (fun g => g.2.elim h121 (fun p => absurd p (Int32.not_lt.mpr q)))]; simp [lsub])
              | (have q : popI (nI s) < popI (covM (fun i => rSees A i) n v s) := Int32.not_le.mp h132; rw [if_pos (And.intro h115 (Or.inr q))]; simp [lsub])
              | (have q : covM (fun i => rSees A i) n v s = NONEi := h121; rw [if_pos (And.intro h115 (Or.inl q))]; simp [lsub])
              | (rw [if_neg (fun g => h115 g.1)]; simp [lsub])
              | fail "s48"
          · skip
            refine mw_iload_n dX7_cover_135 rfl ?_
            refine mw_goto (tgt := 140) dX7_cover_136 (by decide) ?_
            refine mw_istN 2 dX7_cover_140 rfl (by decide) ?_
            refine mw_iincK (k := s) dX7_cover_141 rfl rfl (by decide) ?_
            refine mw_goto (tgt := 48) dX7_cover_144 (by decide) ?_
            refine MW.sub ?_ ih
            simp only [covM]
            first
              | (have q : popI (covM (fun i => rSees A i) n v s) ≤ popI (nI s) := h132; rw [if_neg (fun g => g.2.elim h121 (fun p => absurd p (Int32.not_lt.mpr q)))]; simp [lsub])
              | (have q : popI (nI s) < popI (covM (fun i => rSees A i) n v s) := Int32.not_le.mp h132; rw [if_pos (And.intro h115 (Or.inr q))]; simp [lsub])
              | (have q : covM (fun i => rSees A i) n v s = NONEi := h121; rw [if_pos (And.intro h115 (Or.inl q))]; simp [lsub])
              | (rw [if_neg (fun g => h115 g.1)]; simp [lsub])
              | fail "s48"
    have s66 : ∀ s, MW X fX7_cover (rmOf 4 0 0) 0 0 48 [some (rf X o), some (.int v), some (.int (covM (fun i => rSees A i) n v (s + 1))), some (.int (nI (s + 1))), none, none] [] S m (mQ X 0 0 (fun r S' m => r = some (.int (mCover A n v)) ∧ S' = S ∧ ∀ a, a ≠ o + 4 → m a = mi a)) → MW X fX7_cover (rmOf 4 0 0) 0 0 66 [some (rf X o), some (.int v), some (.int (covM (fun i => rSees A i) n v s)), some (.int (nI s)), some (.int 0), some (.int (nI 0))] [] S m (mQ X 0 0 (fun r S' m => r = some (.int (mCover A n v)) ∧ S' = S ∧ ∀ a, a ≠ o + 4 → m a = mi a)) := by
      intro s ih0
      have lp := mw_dn (P := fun k => MW X fX7_cover (rmOf 4 0 0) 0 0 66 [some (rf X o), some (.int v), some (.int (covM (fun i => rSees A i) n v s)), some (.int (nI s)), some (.int (fld (fun t i => t ||| (if nI s >>> (nI i &&& 31) &&& 1 = 1 then rSees A i else 0)) 0 k)), some (.int (nI k))] [] S m (mQ X 0 0 (fun r S' m => r = some (.int (mCover A n v)) ∧ S' = S ∧ ∀ a, a ≠ o + 4 → m a = mi a))) n (by
        refine mw_iload dX7_cover_66 rfl ?_
        refine mw_aload_n dX7_cover_68 rfl ?_
        refine mw_getr dX7_cover_69 fl_X7_9 rfl (by assumption) (by assumption) ?_
        refine mw_iconst (v := 1) dX7_cover_72 (by decide) ?_
        refine mw_ialdK (k := 1) dX7_cover_73 (by assumption) (rfl) (by decide) (by decide) ?_
        rw [e1]
        refine mw_icmp_ge (tgt := 109) dX7_cover_74 (by decide) (fun h74 => ?_) (fun h74 => ?_)
        · skip
          exact MW.sub (by simp [lsub, viewM]) (s109 s ih0)
        · skip
          exact absurd (Int32.le_refl _) h74) (fun k hk ih => by
        refine mw_iload dX7_cover_66 rfl ?_
        refine mw_aload_n dX7_cover_68 rfl ?_
        refine mw_getr dX7_cover_69 fl_X7_9 rfl (by assumption) (by assumption) ?_
        refine mw_iconst (v := 1) dX7_cover_72 (by decide) ?_
        refine mw_ialdK (k := 1) dX7_cover_73 (by assumption) (rfl) (by decide) (by decide) ?_
        rw [e1]
        refine mw_icmp_ge (tgt := 109) dX7_cover_74 (by decide) (fun h74 => ?_) (fun h74 => ?_)
        · skip
          exact absurd h74 (nI_ge hk (by omega))
        · skip
          refine mw_iload dX7_cover_77 rfl ?_
          refine mw_iload_n dX7_cover_79 rfl ?_
          refine mw_iload dX7_cover_80 rfl ?_
          refine mw_ishr dX7_cover_82 ?_
          refine mw_iconst (v := 1) dX7_cover_83 (by decide) ?_
          refine mw_iand dX7_cover_84 ?_
          refine mw_iconst (v := 1) dX7_cover_85 (by decide) ?_
          refine mw_icmp_ne (tgt := 99) dX7_cover_86 (by decide) (fun h86 => ?_) (fun h86 => ?_)
          · skip
            refine mw_iconst (v := 0) dX7_cover_99 (by decide) ?_
            refine mw_ior dX7_cover_100 ?_
            refine mw_istore dX7_cover_101 (by decide) ?_
            refine mw_iincK (k := k) dX7_cover_103 rfl rfl (by decide) ?_
            refine mw_goto (tgt := 66) dX7_cover_106 (by decide) ?_
            refine MW.sub ?_ ih
            simp only [fld]
            first
              | (rw [if_pos h86]; simp [lsub])
              | (rw [if_neg h86]; simp [lsub])
          · skip
            refine mw_aload_n dX7_cover_89 rfl ?_
            refine mw_getr dX7_cover_90 fl_X7_19 rfl (by assumption) (by assumption) ?_
            refine mw_iload dX7_cover_93 rfl ?_
            refine mw_ialdK (k := k) dX7_cover_95 (by assumption) (rfl) (by omega) (by decide) ?_
            rw [hs k hk]
            refine mw_goto (tgt := 100) dX7_cover_96 (by decide) ?_
            refine mw_ior dX7_cover_100 ?_
            refine mw_istore dX7_cover_101 (by decide) ?_
            refine mw_iincK (k := k) dX7_cover_103 rfl rfl (by decide) ?_
            refine mw_goto (tgt := 66) dX7_cover_106 (by decide) ?_
            refine MW.sub ?_ ih
            simp only [fld]
            first
              | (rw [if_pos h86]; simp [lsub])
              | (rw [if_neg h86]; simp [lsub]))
      exact MW.sub (by simp [lsub, fld]) lp
    have lp := mw_dn (P := fun k => MW X fX7_cover (rmOf 4 0 0) 0 0 48 [some (rf X o), some (.int v), some (.int (covM (fun i => rSees A i) n v k)), some (.int (nI k)), none, none] [] S m (mQ X 0 0 (fun r S' m => r = some (.int (mCover A n v)) ∧ S' = S ∧ ∀ a, a ≠ o + 4 → m a = mi a))) (2^n) (by
      refine mw_iload_n dX7_cover_48 rfl ?_
      refine mw_iconst (v := 1) dX7_cover_49 (by decide) ?_
      refine mw_aload_n dX7_cover_50 rfl ?_
      refine mw_getr dX7_cover_51 fl_X7_9 rfl (by assumption) (by assumption) ?_
      refine mw_iconst (v := 1) dX7_cover_54 (by decide) ?_
      refine mw_ialdK (k := 1) dX7_cover_55 (by assumption) (rfl) (by decide) (by decide) ?_
      rw [e1]
      refine mw_ishl dX7_cover_56 ?_
      rw [shl_n n hn8]
      refine mw_icmp_ge (tgt := 147) dX7_cover_57 (by decide) (fun h57 => ?_) (fun h57 => ?_)
      · skip
        refine mw_iload_n dX7_cover_147 rfl ?_
        exact mw_iret dX7_cover_148 rfl (by decide) (by decide) (⟨by rw [mCover, if_pos hv], rfl, hm⟩)
      · skip
        exact absurd (Int32.le_refl _) h57) (fun k hk ih => by
      refine mw_iload_n dX7_cover_48 rfl ?_
      refine mw_iconst (v := 1) dX7_cover_49 (by decide) ?_
      refine mw_aload_n dX7_cover_50 rfl ?_
      refine mw_getr dX7_cover_51 fl_X7_9 rfl (by assumption) (by assumption) ?_
      refine mw_iconst (v := 1) dX7_cover_54 (by decide) ?_
      refine mw_ialdK (k := 1) dX7_cover_55 (by assumption) (rfl) (by decide) (by decide) ?_
      rw [e1]
      refine mw_ishl dX7_cover_56 ?_
      rw [shl_n n hn8]
      refine mw_icmp_ge (tgt := 147) dX7_cover_57 (by decide) (fun h57 => ?_) (fun h57 => ?_)
      · skip
        exact absurd h57 (nI_ge hk (by omega))
      · skip
        refine mw_iconst (v := 0) dX7_cover_60 (by decide) ?_
        refine mw_istore dX7_cover_61 (by decide) ?_
        refine mw_iconst (v := 0) dX7_cover_63 (by decide) ?_
        refine mw_istore dX7_cover_64 (by decide) ?_
        exact MW.sub (by simp [lsub, nI_0]) (s66 k ih))
    exact MW.sub (by simp [lsub, covM]) lp
  have p1 : (0 ≤ v ∧ v ≤ 255) → MW X fX7_cover (rmOf 4 0 0) 0 0 16 [some (rf X o), some (.int v), some (.int (nI 0)), none, none, none] [] S mi (mQ X 0 0 (fun r S' m => r = some (.int (mCover A n v)) ∧ S' = S ∧ ∀ a, a ≠ o + 4 → m a = mi a)) := by
    intro hv
    have lp := mw_dn (P := fun k => ∀ m, (∀ a, a ≠ o + 4 → m a = mi a) → (∀ i, i < k → m (o + 4) i = rSees A i) → MW X fX7_cover (rmOf 4 0 0) 0 0 16 [some (rf X o), some (.int v), some (.int (nI k)), none, none, none] [] S m (mQ X 0 0 (fun r S' m => r = some (.int (mCover A n v)) ∧ S' = S ∧ ∀ a, a ≠ o + 4 → m a = mi a))) n (by
      intro m hm hs
      have e1 : m (o + 1) 1 = nI n := by rw [hm (o + 1) (by omega), hA, hn]
      refine mw_iload_n dX7_cover_16 rfl ?_
      refine mw_aload_n dX7_cover_17 rfl ?_
      refine mw_getr dX7_cover_18 fl_X7_9 rfl (by assumption) (by assumption) ?_
      refine mw_iconst (v := 1) dX7_cover_21 (by decide) ?_
      refine mw_ialdK (k := 1) dX7_cover_22 (by assumption) (rfl) (by decide) (by decide) ?_
      rw [e1]
      refine mw_icmp_ge (tgt := 43) dX7_cover_23 (by decide) (fun h23 => ?_) (fun h23 => ?_)
      · skip
        refine mw_ldc dX7_cover_43 cn_X7_172 ?_
        refine mw_istN 2 dX7_cover_45 rfl (by decide) ?_
        refine mw_iconst (v := 0) dX7_cover_46 (by decide) ?_
        refine mw_istN 3 dX7_cover_47 rfl (by decide) ?_
        exact MW.sub (by simp [lsub, nI_0]) (p2 hv m hm hs)
      · skip
        exact absurd (Int32.le_refl _) h23) (fun k hk ih => by
      intro m hm hs
      have e1 : m (o + 1) 1 = nI n := by rw [hm (o + 1) (by omega), hA, hn]
      have e2 : rSees (m (o + 1)) k = rSees A k := by rw [hm (o + 1) (by omega), hA]
      refine mw_iload_n dX7_cover_16 rfl ?_
      refine mw_aload_n dX7_cover_17 rfl ?_
      refine mw_getr dX7_cover_18 fl_X7_9 rfl (by assumption) (by assumption) ?_
      refine mw_iconst (v := 1) dX7_cover_21 (by decide) ?_
      refine mw_ialdK (k := 1) dX7_cover_22 (by assumption) (rfl) (by decide) (by decide) ?_
      rw [e1]
      refine mw_icmp_ge (tgt := 43) dX7_cover_23 (by decide) (fun h23 => ?_) (fun h23 => ?_)
      · skip
        exact absurd h23 (nI_ge hk (by omega))
      · skip
        refine mw_aload_n dX7_cover_26 rfl ?_
        refine mw_getr dX7_cover_27 fl_X7_19 rfl (by assumption) (by assumption) ?_
        refine mw_iload_n dX7_cover_30 rfl ?_
        refine mw_aload_n dX7_cover_31 rfl ?_
        refine mw_iload_n dX7_cover_32 rfl ?_
        refine mw_cVI (g := fX7_sees) dX7_cover_33 ml_X7_104 mfX7_sees (ok_X7_sees hM (a := k) (by omega)) (by assumption) rfl rfl (Nat.le_of_ble_eq_true rfl) ⟨by decide, by decide⟩ ⟨by decide, by decide⟩ ?_
        rw [e2]
        refine mw_iastK (k := k) dX7_cover_36 (by assumption) (rfl) (by omega) (by decide) ?_
        refine mw_iincK (k := k) dX7_cover_37 rfl rfl (by decide) ?_
        refine mw_goto (tgt := 16) dX7_cover_40 (by decide) ?_
        refine MW.sub (by simp [lsub]) (ih _ (fun a ha => by rw [m_up_ne ha]; exact hm a ha) (fun i hi => ?_))
        by_cases c : i = k
        · subst c; rw [m_up_at]
        · rw [m_up_of c]; exact hs i (by omega))
    exact lp mi (fun _ _ => rfl) (fun i hi => absurd hi (Nat.not_lt_zero i))
  refine mw_iload_n dX7_cover_0 rfl ?_
  refine mw_iconst (v := 0) dX7_cover_1 (by decide) ?_
  refine mw_sipush (v := 255) dX7_cover_2 (by decide) ?_
  refine mw_cSI (g := fX7_in) dX7_cover_5 ml_X7_78 mfX7_in (ok_X7_in) rfl rfl (Nat.le_of_ble_eq_true rfl) ⟨by decide, by decide⟩ ⟨by decide, by decide⟩ ?_
  refine mw_if_neB (tgt := 14) dX7_cover_8 (by decide) (fun h8 => ?_) (fun h8 => ?_)
  · skip
    refine mw_iconst (v := 0) dX7_cover_14 (by decide) ?_
    refine mw_istN 2 dX7_cover_15 rfl (by decide) ?_
    exact MW.sub (by simp [lsub, nI_0]) (p1 h8)
  · skip
    refine mw_ldc dX7_cover_11 cn_X7_127 ?_
    exact mw_iret dX7_cover_13 rfl (by decide) (by decide) (⟨by rw [mCover, if_neg h8], rfl, fun _ _ => rfl⟩)
theorem dX7_feed_0 : decode fX7_feed.2.1 0 = .ok (.aload_n 0, 1) := by decide +kernel
theorem dX7_feed_1 : decode fX7_feed.2.1 1 = .ok (.getfield 194, 3) := by decide +kernel
theorem dX7_feed_4 : decode fX7_feed.2.1 4 = .ok (.bipush 12, 2) := by decide +kernel
theorem dX7_feed_6 : decode fX7_feed.2.1 6 = .ok (.iadd, 1) := by decide +kernel
theorem dX7_feed_7 : decode fX7_feed.2.1 7 = .ok (.bipush 96, 2) := by decide +kernel
theorem dX7_feed_9 : decode fX7_feed.2.1 9 = .ok (.if_icmp .le 6, 3) := by decide +kernel
theorem dX7_feed_12 : decode fX7_feed.2.1 12 = .ok (.ldc 128, 2) := by decide +kernel
theorem dX7_feed_14 : decode fX7_feed.2.1 14 = .ok (.ireturn, 1) := by decide +kernel
theorem dX7_feed_15 : decode fX7_feed.2.1 15 = .ok (.iconst 0, 1) := by decide +kernel
theorem dX7_feed_16 : decode fX7_feed.2.1 16 = .ok (.istore 4, 2) := by decide +kernel
theorem dX7_feed_18 : decode fX7_feed.2.1 18 = .ok (.iload 4, 2) := by decide +kernel
theorem dX7_feed_20 : decode fX7_feed.2.1 20 = .ok (.bipush 12, 2) := by decide +kernel
theorem dX7_feed_22 : decode fX7_feed.2.1 22 = .ok (.if_icmp .ge 62, 3) := by decide +kernel
theorem dX7_feed_25 : decode fX7_feed.2.1 25 = .ok (.iload 4, 2) := by decide +kernel
theorem dX7_feed_27 : decode fX7_feed.2.1 27 = .ok (.iconst 4, 1) := by decide +kernel
theorem dX7_feed_28 : decode fX7_feed.2.1 28 = .ok (.if_icmp .ge 7, 3) := by decide +kernel
theorem dX7_feed_31 : decode fX7_feed.2.1 31 = .ok (.iload_n 1, 1) := by decide +kernel
theorem dX7_feed_32 : decode fX7_feed.2.1 32 = .ok (.goto 15, 3) := by decide +kernel
theorem dX7_feed_35 : decode fX7_feed.2.1 35 = .ok (.iload 4, 2) := by decide +kernel
theorem dX7_feed_37 : decode fX7_feed.2.1 37 = .ok (.bipush 8, 2) := by decide +kernel
theorem dX7_feed_39 : decode fX7_feed.2.1 39 = .ok (.if_icmp .ge 7, 3) := by decide +kernel
theorem dX7_feed_42 : decode fX7_feed.2.1 42 = .ok (.iload_n 2, 1) := by decide +kernel
theorem dX7_feed_43 : decode fX7_feed.2.1 43 = .ok (.goto 4, 3) := by decide +kernel
theorem dX7_feed_46 : decode fX7_feed.2.1 46 = .ok (.iload_n 3, 1) := by decide +kernel
theorem dX7_feed_47 : decode fX7_feed.2.1 47 = .ok (.istore 5, 2) := by decide +kernel
theorem dX7_feed_49 : decode fX7_feed.2.1 49 = .ok (.aload_n 0, 1) := by decide +kernel
theorem dX7_feed_50 : decode fX7_feed.2.1 50 = .ok (.getfield 25, 3) := by decide +kernel
theorem dX7_feed_53 : decode fX7_feed.2.1 53 = .ok (.aload_n 0, 1) := by decide +kernel
theorem dX7_feed_54 : decode fX7_feed.2.1 54 = .ok (.getfield 194, 3) := by decide +kernel
theorem dX7_feed_57 : decode fX7_feed.2.1 57 = .ok (.iload 4, 2) := by decide +kernel
theorem dX7_feed_59 : decode fX7_feed.2.1 59 = .ok (.iadd, 1) := by decide +kernel
theorem dX7_feed_60 : decode fX7_feed.2.1 60 = .ok (.iload 5, 2) := by decide +kernel
theorem dX7_feed_62 : decode fX7_feed.2.1 62 = .ok (.bipush 24, 2) := by decide +kernel
theorem dX7_feed_64 : decode fX7_feed.2.1 64 = .ok (.bipush 8, 2) := by decide +kernel
theorem dX7_feed_66 : decode fX7_feed.2.1 66 = .ok (.iload 4, 2) := by decide +kernel
theorem dX7_feed_68 : decode fX7_feed.2.1 68 = .ok (.iconst 4, 1) := by decide +kernel
theorem dX7_feed_69 : decode fX7_feed.2.1 69 = .ok (.irem, 1) := by decide +kernel
theorem dX7_feed_70 : decode fX7_feed.2.1 70 = .ok (.imul, 1) := by decide +kernel
theorem dX7_feed_71 : decode fX7_feed.2.1 71 = .ok (.isub, 1) := by decide +kernel
theorem dX7_feed_72 : decode fX7_feed.2.1 72 = .ok (.ishr, 1) := by decide +kernel
theorem dX7_feed_73 : decode fX7_feed.2.1 73 = .ok (.sipush 255, 3) := by decide +kernel
theorem dX7_feed_76 : decode fX7_feed.2.1 76 = .ok (.iand, 1) := by decide +kernel
theorem dX7_feed_77 : decode fX7_feed.2.1 77 = .ok (.iastore, 1) := by decide +kernel
theorem dX7_feed_78 : decode fX7_feed.2.1 78 = .ok (.iinc 4 1, 3) := by decide +kernel
theorem dX7_feed_81 : decode fX7_feed.2.1 81 = .ok (.goto (-63), 3) := by decide +kernel
theorem dX7_feed_84 : decode fX7_feed.2.1 84 = .ok (.aload_n 0, 1) := by decide +kernel
theorem dX7_feed_85 : decode fX7_feed.2.1 85 = .ok (.dup, 1) := by decide +kernel
theorem dX7_feed_86 : decode fX7_feed.2.1 86 = .ok (.getfield 194, 3) := by decide +kernel
theorem dX7_feed_89 : decode fX7_feed.2.1 89 = .ok (.bipush 12, 2) := by decide +kernel
theorem dX7_feed_91 : decode fX7_feed.2.1 91 = .ok (.iadd, 1) := by decide +kernel
theorem dX7_feed_92 : decode fX7_feed.2.1 92 = .ok (.putfield 194, 3) := by decide +kernel
theorem dX7_feed_95 : decode fX7_feed.2.1 95 = .ok (.aload_n 0, 1) := by decide +kernel
theorem dX7_feed_96 : decode fX7_feed.2.1 96 = .ok (.getfield 194, 3) := by decide +kernel
theorem dX7_feed_99 : decode fX7_feed.2.1 99 = .ok (.ireturn, 1) := by decide +kernel
set_option maxRecDepth 100000 in
set_option maxHeartbeats 4000000 in
theorem ok_X7_feed {X : Xb} {S : Sg} {mi : Mem} {o l : Nat} {a b c : Int32} (hM : MdA S o) (hl : mi o 7 = nI l) (hl96 : l ≤ 96) : Ok 1 0 0 fX7_feed X [rf X o, .int a, .int b, .int c] S mi (PF S mi o (o + 6) 7 l a b c) := by
  refine Ok.go [some (rf X o), some (.int a), some (.int b), some (.int c), none, none] (by decide) (by simp [Value.category]) (Nat.le_of_ble_eq_true rfl) rfl ?_
  obtain ⟨k_o, ⟨r_o_now, k_o_now⟩, ⟨r_o_image, k_o_image⟩, ⟨r_o_aside, k_o_aside⟩, ⟨r_o_seen, k_o_seen⟩, ⟨r_o_unlike, k_o_unlike⟩, ⟨r_o_tape, k_o_tape⟩, ⟨r_o_keys, k_o_keys⟩, ⟨r_o_keyAt, k_o_keyAt⟩, ⟨r_o_code, k_o_code⟩, ⟨r_o_waits, k_o_waits⟩, ⟨r_o_tested, k_o_tested⟩, ⟨r_o_stack, k_o_stack⟩, ⟨r_o_facts, k_o_facts⟩, ⟨r_o_sorts, k_o_sorts⟩, ⟨r_o_sizes, k_o_sizes⟩, ⟨r_o_cells, k_o_cells⟩, ⟨r_o_holds, k_o_holds⟩, ⟨r_o_holdsA, k_o_holdsA⟩, ⟨r_o_holdsB, k_o_holdsB⟩, ⟨r_o_heldCells, k_o_heldCells⟩, ⟨r_o_moved, k_o_moved⟩, ⟨r_o_tells, k_o_tells⟩⟩ := id hM
  have e12 : nI l + 12 = nI (l + 12) := by show nI l + nI 12 = _; rw [nI_add]
  have n6 : o ≠ o + 6 := by omega
  have go : l + 12 ≤ 96 → MW X fX7_feed (rmOf 1 0 0) 0 0 18 [some (rf X o), some (.int a), some (.int b), some (.int c), some (.int (nI 0)), none] [] S mi (mQ X 0 0 (PF S mi o (o + 6) 7 l a b c)) := by
    intro hl12
    have lp := mw_dn (P := fun k => ∀ m, m (o + 6) = fdR (mi (o + 6)) l a b c k → (∀ i, i ≠ o + 6 → m i = mi i) → MW X fX7_feed (rmOf 1 0 0) 0 0 18 [some (rf X o), some (.int a), some (.int b), some (.int c), some (.int (nI k)), none] [] S m (mQ X 0 0 (PF S mi o (o + 6) 7 l a b c))) 12 (by
      intro m g1 g2
      have e7 : m o 7 = nI l := by rw [g2 o n6]; exact hl
      refine mw_iload dX7_feed_18 rfl ?_
      refine mw_bipush (v := 12) dX7_feed_20 (by decide) ?_
      refine mw_icmp_ge (tgt := 84) dX7_feed_22 (by decide) (fun h22 => ?_) (fun h22 => ?_)
      · skip
        refine mw_aload_n dX7_feed_84 rfl ?_
        refine mw_dup dX7_feed_85 rfl ?_
        refine mw_geti dX7_feed_86 fl_X7_194 rfl (by assumption) ?_
        rw [e7]
        refine mw_bipush (v := 12) dX7_feed_89 (by decide) ?_
        refine mw_iadd dX7_feed_91 ?_
        rw [e12]
        refine mw_puti dX7_feed_92 fl_X7_194 ft_7_7 rfl (rfl) rfl (by assumption) ?_
        refine mw_aload_n dX7_feed_95 rfl ?_
        refine mw_geti dX7_feed_96 fl_X7_194 rfl (by assumption) ?_
        rw [m_up_at]
        exact mw_iret dX7_feed_99 rfl (by decide) (by decide) (⟨rfl, Or.inr ⟨hl12, rfl, by rw [m_up_row, g2 o n6], by rw [m_up_ne (show o + 6 ≠ o by omega), g1], fun i h1 h2 => by rw [m_up_ne h1]; exact g2 i h2⟩⟩)
      · skip
        exact absurd (by decide) h22) (fun k hk ih => by
      intro m g1 g2
      have e7 : m o 7 = nI l := by rw [g2 o n6]; exact hl
      have er : jr (nI k) 4 = nI (k % 4) := by { show nI k - nI k / nI 4 * nI 4 = _; exact pk_rem (by omega) (by decide) (by decide) }
      have ei : nI l + nI k = nI (l + k) := by rw [nI_add]
      refine mw_iload dX7_feed_18 rfl ?_
      refine mw_bipush (v := 12) dX7_feed_20 (by decide) ?_
      refine mw_icmp_ge (tgt := 84) dX7_feed_22 (by decide) (fun h22 => ?_) (fun h22 => ?_)
      · skip
        exact absurd h22 (nI_ge (b := 12) hk (by decide))
      · skip
        refine mw_iload dX7_feed_25 rfl ?_
        refine mw_iconst (v := 4) dX7_feed_27 (by decide) ?_
        refine mw_icmp_ge (tgt := 35) dX7_feed_28 (by decide) (fun h28 => ?_) (fun h28 => ?_)
        · skip
          refine mw_iload dX7_feed_35 rfl ?_
          refine mw_bipush (v := 8) dX7_feed_37 (by decide) ?_
          refine mw_icmp_ge (tgt := 46) dX7_feed_39 (by decide) (fun h39 => ?_) (fun h39 => ?_)
          · skip
            have ew : fdW a b c k = c := by rw [fdW, if_neg (fun g => absurd h28 (nI_ge (b := 4) g (by decide))), if_neg (fun g => absurd h39 (nI_ge (b := 8) g (by decide)))]
            refine mw_iload_n dX7_feed_46 rfl ?_
            refine mw_istore dX7_feed_47 (by decide) ?_
            refine mw_aload_n dX7_feed_49 rfl ?_
            refine mw_getr dX7_feed_50 fl_X7_25 rfl (by assumption) (by assumption) ?_
            refine mw_aload_n dX7_feed_53 rfl ?_
            refine mw_geti dX7_feed_54 fl_X7_194 rfl (by assumption) ?_
            rw [e7]
            refine mw_iload dX7_feed_57 rfl ?_
            refine mw_iadd dX7_feed_59 ?_
            rw [ei]
            refine mw_iload dX7_feed_60 rfl ?_
            refine mw_bipush (v := 24) dX7_feed_62 (by decide) ?_
            refine mw_bipush (v := 8) dX7_feed_64 (by decide) ?_
            refine mw_iload dX7_feed_66 rfl ?_
            refine mw_iconst (v := 4) dX7_feed_68 (by decide) ?_
            refine mw_irem dX7_feed_69 (by decide) ?_
            rw [er]
            refine mw_imul dX7_feed_70 ?_
            refine mw_isub dX7_feed_71 ?_
            refine mw_ishr dX7_feed_72 ?_
            refine mw_sipush (v := 255) dX7_feed_73 (by decide) ?_
            refine mw_iand dX7_feed_76 ?_
            refine mw_iastK (k := l + k) dX7_feed_77 (by assumption) (rfl) (by omega) (by decide) ?_
            refine mw_iincK (k := k) dX7_feed_78 rfl rfl (by decide) ?_
            refine mw_goto (tgt := 18) dX7_feed_81 (by decide) ?_
            refine MW.sub (by simp [lsub]) (ih _ ?_ (fun i h1 => by rw [m_up_ne h1]; exact g2 i h1))
            rw [m_up_row, g1, fdR, ew]
          · skip
            have ew : fdW a b c k = b := by rw [fdW, if_neg (fun g => absurd h28 (nI_ge (b := 4) g (by decide))), if_pos ((nI_ltI (b := 8) (by omega) (by decide)).mp (Int32.not_le.mp h39))]
            refine mw_iload_n dX7_feed_42 rfl ?_
            refine mw_goto (tgt := 47) dX7_feed_43 (by decide) ?_
            refine mw_istore dX7_feed_47 (by decide) ?_
            refine mw_aload_n dX7_feed_49 rfl ?_
            refine mw_getr dX7_feed_50 fl_X7_25 rfl (by assumption) (by assumption) ?_
            refine mw_aload_n dX7_feed_53 rfl ?_
            refine mw_geti dX7_feed_54 fl_X7_194 rfl (by assumption) ?_
            rw [e7]
            refine mw_iload dX7_feed_57 rfl ?_
            refine mw_iadd dX7_feed_59 ?_
            rw [ei]
            refine mw_iload dX7_feed_60 rfl ?_
            refine mw_bipush (v := 24) dX7_feed_62 (by decide) ?_
            refine mw_bipush (v := 8) dX7_feed_64 (by decide) ?_
            refine mw_iload dX7_feed_66 rfl ?_
            refine mw_iconst (v := 4) dX7_feed_68 (by decide) ?_
            refine mw_irem dX7_feed_69 (by decide) ?_
            rw [er]
            refine mw_imul dX7_feed_70 ?_
            refine mw_isub dX7_feed_71 ?_
            refine mw_ishr dX7_feed_72 ?_
            refine mw_sipush (v := 255) dX7_feed_73 (by decide) ?_
            refine mw_iand dX7_feed_76 ?_
            refine mw_iastK (k := l + k) dX7_feed_77 (by assumption) (rfl) (by omega) (by decide) ?_
            refine mw_iincK (k := k) dX7_feed_78 rfl rfl (by decide) ?_
            refine mw_goto (tgt := 18) dX7_feed_81 (by decide) ?_
            refine MW.sub (by simp [lsub]) (ih _ ?_ (fun i h1 => by rw [m_up_ne h1]; exact g2 i h1))
            rw [m_up_row, g1, fdR, ew]
        · skip
          have ew : fdW a b c k = a := by rw [fdW, if_pos ((nI_ltI (b := 4) (by omega) (by decide)).mp (Int32.not_le.mp h28))]
          refine mw_iload_n dX7_feed_31 rfl ?_
          refine mw_goto (tgt := 47) dX7_feed_32 (by decide) ?_
          refine mw_istore dX7_feed_47 (by decide) ?_
          refine mw_aload_n dX7_feed_49 rfl ?_
          refine mw_getr dX7_feed_50 fl_X7_25 rfl (by assumption) (by assumption) ?_
          refine mw_aload_n dX7_feed_53 rfl ?_
          refine mw_geti dX7_feed_54 fl_X7_194 rfl (by assumption) ?_
          rw [e7]
          refine mw_iload dX7_feed_57 rfl ?_
          refine mw_iadd dX7_feed_59 ?_
          rw [ei]
          refine mw_iload dX7_feed_60 rfl ?_
          refine mw_bipush (v := 24) dX7_feed_62 (by decide) ?_
          refine mw_bipush (v := 8) dX7_feed_64 (by decide) ?_
          refine mw_iload dX7_feed_66 rfl ?_
          refine mw_iconst (v := 4) dX7_feed_68 (by decide) ?_
          refine mw_irem dX7_feed_69 (by decide) ?_
          rw [er]
          refine mw_imul dX7_feed_70 ?_
          refine mw_isub dX7_feed_71 ?_
          refine mw_ishr dX7_feed_72 ?_
          refine mw_sipush (v := 255) dX7_feed_73 (by decide) ?_
          refine mw_iand dX7_feed_76 ?_
          refine mw_iastK (k := l + k) dX7_feed_77 (by assumption) (rfl) (by omega) (by decide) ?_
          refine mw_iincK (k := k) dX7_feed_78 rfl rfl (by decide) ?_
          refine mw_goto (tgt := 18) dX7_feed_81 (by decide) ?_
          refine MW.sub (by simp [lsub]) (ih _ ?_ (fun i h1 => by rw [m_up_ne h1]; exact g2 i h1))
          rw [m_up_row, g1, fdR, ew])
    exact lp mi rfl (fun _ _ => rfl)
  refine mw_aload_n dX7_feed_0 rfl ?_
  refine mw_geti dX7_feed_1 fl_X7_194 rfl (by assumption) ?_
  rw [hl]
  refine mw_bipush (v := 12) dX7_feed_4 (by decide) ?_
  refine mw_iadd dX7_feed_6 ?_
  rw [e12]
  refine mw_bipush (v := 96) dX7_feed_7 (by decide) ?_
  refine mw_icmp_le (tgt := 15) dX7_feed_9 (by decide) (fun h9 => ?_) (fun h9 => ?_)
  · skip
    refine mw_iconst (v := 0) dX7_feed_15 (by decide) ?_
    refine mw_istore dX7_feed_16 (by decide) ?_
    exact MW.sub (by simp [lsub, nI_0]) (go ((nI_leI (b := 96) (by omega) (by decide)).mp h9))
  · skip
    refine mw_ldc dX7_feed_12 cn_X7_128 ?_
    exact mw_iret dX7_feed_14 rfl (by decide) (by decide) (⟨rfl, Or.inl ⟨by rcases Nat.lt_or_ge 96 (l + 12) with g | g; exact g; exact absurd (nI_le (b := 96) g (by decide)) h9, rfl, rfl⟩⟩)
theorem ix24 (i k : Nat) : (24 : Int32) * nI i + nI k = nI (24 * i + k) := by show nI 24 * nI i + nI k = _; rw [nI_mul, nI_add]
def zC (f : Nat → Int32) (i k : Nat) : Nat → Int32 := fun j => if 24 * i ≤ j ∧ j < 24 * i + k then 0 else f j
theorem zC_0 (f : Nat → Int32) (i : Nat) : zC f i 0 = f := by funext j; simp only [zC]; rw [if_neg (by omega)]
theorem zC_s (f : Nat → Int32) (i k : Nat) : upd (zC f i k) (24 * i + k) 0 = zC f i (k + 1) := by
  funext j
  simp only [upd, zC]
  grind
theorem dX7_isSheet_0 : decode fX7_isSheet.2.1 0 = .ok (.iload_n 0, 1) := by decide +kernel
theorem dX7_isSheet_1 : decode fX7_isSheet.2.1 1 = .ok (.iconst 0, 1) := by decide +kernel
theorem dX7_isSheet_2 : decode fX7_isSheet.2.1 2 = .ok (.iconst 3, 1) := by decide +kernel
theorem dX7_isSheet_3 : decode fX7_isSheet.2.1 3 = .ok (.invokestatic 78, 3) := by decide +kernel
theorem dX7_isSheet_6 : decode fX7_isSheet.2.1 6 = .ok (.ireturn, 1) := by decide +kernel
set_option maxRecDepth 100000 in
set_option maxHeartbeats 4000000 in
theorem ok_X7_isSheet {X : Xb} {S : Sg} {mi : Mem} {v : Int32} : OkI 1 fX7_isSheet X [.int v] S mi (b2i (0 ≤ v ∧ v ≤ 3)) mi := by
  refine Ok.go [some (.int v)] (by decide) (by simp [Value.category]) (Nat.le_of_ble_eq_true rfl) rfl ?_
  refine mw_iload_n dX7_isSheet_0 rfl ?_
  refine mw_iconst (v := 0) dX7_isSheet_1 (by decide) ?_
  refine mw_iconst (v := 3) dX7_isSheet_2 (by decide) ?_
  refine mw_cSI (g := fX7_in) dX7_isSheet_3 ml_X7_78 mfX7_in (ok_X7_in) rfl rfl (Nat.le_of_ble_eq_true rfl) ⟨by decide, by decide⟩ ⟨by decide, by decide⟩ ?_
  exact mw_bret dX7_isSheet_6 rfl (by first | exact Or.inl rfl | exact Or.inr rfl | exact b2i_01) (by decide) (by decide) (⟨rfl, rfl, rfl⟩)
theorem dX7_isSlot_0 : decode fX7_isSlot.2.1 0 = .ok (.iload_n 0, 1) := by decide +kernel
theorem dX7_isSlot_1 : decode fX7_isSlot.2.1 1 = .ok (.iconst 0, 1) := by decide +kernel
theorem dX7_isSlot_2 : decode fX7_isSlot.2.1 2 = .ok (.iconst 4, 1) := by decide +kernel
theorem dX7_isSlot_3 : decode fX7_isSlot.2.1 3 = .ok (.invokestatic 78, 3) := by decide +kernel
theorem dX7_isSlot_6 : decode fX7_isSlot.2.1 6 = .ok (.ireturn, 1) := by decide +kernel
set_option maxRecDepth 100000 in
set_option maxHeartbeats 4000000 in
theorem ok_X7_isSlot {X : Xb} {S : Sg} {mi : Mem} {v : Int32} : OkI 1 fX7_isSlot X [.int v] S mi (b2i (0 ≤ v ∧ v ≤ 4)) mi := by
  refine Ok.go [some (.int v)] (by decide) (by simp [Value.category]) (Nat.le_of_ble_eq_true rfl) rfl ?_
  refine mw_iload_n dX7_isSlot_0 rfl ?_
  refine mw_iconst (v := 0) dX7_isSlot_1 (by decide) ?_
  refine mw_iconst (v := 4) dX7_isSlot_2 (by decide) ?_
  refine mw_cSI (g := fX7_in) dX7_isSlot_3 ml_X7_78 mfX7_in (ok_X7_in) rfl rfl (Nat.le_of_ble_eq_true rfl) ⟨by decide, by decide⟩ ⟨by decide, by decide⟩ ?_
  exact mw_bret dX7_isSlot_6 rfl (by first | exact Or.inl rfl | exact Or.inr rfl | exact b2i_01) (by decide) (by decide) (⟨rfl, rfl, rfl⟩)
def shM (mi : Mem) (o i : Nat) (s n : Int32) : Mem := m_row (m_up (m_up mi (o + 14) i s) (o + 15) i n) (o + 16) (zC (mi (o + 16)) i 24)
def mSheet (mi : Mem) (o : Nat) (v s n : Int32) : Int32 × Mem := if (0 ≤ v ∧ v ≤ 3) ∧ (-1 ≤ s ∧ s ≤ 1) then (if s < 0 then (0, shM mi o v.toNatClampNeg s 0) else if 24 < n then (BADi, mi) else if n < 0 then (SIZEi, mi) else (n, shM mi o v.toNatClampNeg s n)) else (BADi, mi)
theorem dX7_sheet_0 : decode fX7_sheet.2.1 0 = .ok (.iload_n 1, 1) := by decide +kernel
theorem dX7_sheet_1 : decode fX7_sheet.2.1 1 = .ok (.invokestatic 187, 3) := by decide +kernel
theorem dX7_sheet_4 : decode fX7_sheet.2.1 4 = .ok (.ifCond .eq 22, 3) := by decide +kernel
theorem dX7_sheet_7 : decode fX7_sheet.2.1 7 = .ok (.iload_n 2, 1) := by decide +kernel
theorem dX7_sheet_8 : decode fX7_sheet.2.1 8 = .ok (.iconst (-1), 1) := by decide +kernel
theorem dX7_sheet_9 : decode fX7_sheet.2.1 9 = .ok (.iconst 1, 1) := by decide +kernel
theorem dX7_sheet_10 : decode fX7_sheet.2.1 10 = .ok (.invokestatic 78, 3) := by decide +kernel
theorem dX7_sheet_13 : decode fX7_sheet.2.1 13 = .ok (.ifCond .eq 13, 3) := by decide +kernel
theorem dX7_sheet_16 : decode fX7_sheet.2.1 16 = .ok (.iload_n 2, 1) := by decide +kernel
theorem dX7_sheet_17 : decode fX7_sheet.2.1 17 = .ok (.ifCond .lt 12, 3) := by decide +kernel
theorem dX7_sheet_20 : decode fX7_sheet.2.1 20 = .ok (.iload_n 3, 1) := by decide +kernel
theorem dX7_sheet_21 : decode fX7_sheet.2.1 21 = .ok (.bipush 24, 2) := by decide +kernel
theorem dX7_sheet_23 : decode fX7_sheet.2.1 23 = .ok (.if_icmp .le 6, 3) := by decide +kernel
theorem dX7_sheet_26 : decode fX7_sheet.2.1 26 = .ok (.ldc 127, 2) := by decide +kernel
theorem dX7_sheet_28 : decode fX7_sheet.2.1 28 = .ok (.ireturn, 1) := by decide +kernel
theorem dX7_sheet_29 : decode fX7_sheet.2.1 29 = .ok (.iload_n 2, 1) := by decide +kernel
theorem dX7_sheet_30 : decode fX7_sheet.2.1 30 = .ok (.ifCond .lt 11, 3) := by decide +kernel
theorem dX7_sheet_33 : decode fX7_sheet.2.1 33 = .ok (.iload_n 3, 1) := by decide +kernel
theorem dX7_sheet_34 : decode fX7_sheet.2.1 34 = .ok (.ifCond .ge 7, 3) := by decide +kernel
theorem dX7_sheet_37 : decode fX7_sheet.2.1 37 = .ok (.ldc_w 262, 3) := by decide +kernel
theorem dX7_sheet_40 : decode fX7_sheet.2.1 40 = .ok (.ireturn, 1) := by decide +kernel
theorem dX7_sheet_41 : decode fX7_sheet.2.1 41 = .ok (.aload_n 0, 1) := by decide +kernel
theorem dX7_sheet_42 : decode fX7_sheet.2.1 42 = .ok (.getfield 51, 3) := by decide +kernel
theorem dX7_sheet_45 : decode fX7_sheet.2.1 45 = .ok (.iload_n 1, 1) := by decide +kernel
theorem dX7_sheet_46 : decode fX7_sheet.2.1 46 = .ok (.iload_n 2, 1) := by decide +kernel
theorem dX7_sheet_47 : decode fX7_sheet.2.1 47 = .ok (.iastore, 1) := by decide +kernel
theorem dX7_sheet_48 : decode fX7_sheet.2.1 48 = .ok (.aload_n 0, 1) := by decide +kernel
theorem dX7_sheet_49 : decode fX7_sheet.2.1 49 = .ok (.getfield 54, 3) := by decide +kernel
theorem dX7_sheet_52 : decode fX7_sheet.2.1 52 = .ok (.iload_n 1, 1) := by decide +kernel
theorem dX7_sheet_53 : decode fX7_sheet.2.1 53 = .ok (.iload_n 2, 1) := by decide +kernel
theorem dX7_sheet_54 : decode fX7_sheet.2.1 54 = .ok (.ifCond .ge 7, 3) := by decide +kernel
theorem dX7_sheet_57 : decode fX7_sheet.2.1 57 = .ok (.iconst 0, 1) := by decide +kernel
theorem dX7_sheet_58 : decode fX7_sheet.2.1 58 = .ok (.goto 4, 3) := by decide +kernel
theorem dX7_sheet_61 : decode fX7_sheet.2.1 61 = .ok (.iload_n 3, 1) := by decide +kernel
theorem dX7_sheet_62 : decode fX7_sheet.2.1 62 = .ok (.iastore, 1) := by decide +kernel
theorem dX7_sheet_63 : decode fX7_sheet.2.1 63 = .ok (.iconst 0, 1) := by decide +kernel
theorem dX7_sheet_64 : decode fX7_sheet.2.1 64 = .ok (.istore 4, 2) := by decide +kernel
theorem dX7_sheet_66 : decode fX7_sheet.2.1 66 = .ok (.iload 4, 2) := by decide +kernel
theorem dX7_sheet_68 : decode fX7_sheet.2.1 68 = .ok (.bipush 24, 2) := by decide +kernel
theorem dX7_sheet_70 : decode fX7_sheet.2.1 70 = .ok (.if_icmp .ge 22, 3) := by decide +kernel
theorem dX7_sheet_73 : decode fX7_sheet.2.1 73 = .ok (.aload_n 0, 1) := by decide +kernel
theorem dX7_sheet_74 : decode fX7_sheet.2.1 74 = .ok (.getfield 57, 3) := by decide +kernel
theorem dX7_sheet_77 : decode fX7_sheet.2.1 77 = .ok (.bipush 24, 2) := by decide +kernel
theorem dX7_sheet_79 : decode fX7_sheet.2.1 79 = .ok (.iload_n 1, 1) := by decide +kernel
theorem dX7_sheet_80 : decode fX7_sheet.2.1 80 = .ok (.imul, 1) := by decide +kernel
theorem dX7_sheet_81 : decode fX7_sheet.2.1 81 = .ok (.iload 4, 2) := by decide +kernel
theorem dX7_sheet_83 : decode fX7_sheet.2.1 83 = .ok (.iadd, 1) := by decide +kernel
theorem dX7_sheet_84 : decode fX7_sheet.2.1 84 = .ok (.iconst 0, 1) := by decide +kernel
theorem dX7_sheet_85 : decode fX7_sheet.2.1 85 = .ok (.iastore, 1) := by decide +kernel
theorem dX7_sheet_86 : decode fX7_sheet.2.1 86 = .ok (.iinc 4 1, 3) := by decide +kernel
theorem dX7_sheet_89 : decode fX7_sheet.2.1 89 = .ok (.goto (-23), 3) := by decide +kernel
theorem dX7_sheet_92 : decode fX7_sheet.2.1 92 = .ok (.aload_n 0, 1) := by decide +kernel
theorem dX7_sheet_93 : decode fX7_sheet.2.1 93 = .ok (.getfield 54, 3) := by decide +kernel
theorem dX7_sheet_96 : decode fX7_sheet.2.1 96 = .ok (.iload_n 1, 1) := by decide +kernel
theorem dX7_sheet_97 : decode fX7_sheet.2.1 97 = .ok (.iaload, 1) := by decide +kernel
theorem dX7_sheet_98 : decode fX7_sheet.2.1 98 = .ok (.ireturn, 1) := by decide +kernel
set_option maxRecDepth 100000 in
set_option maxHeartbeats 4000000 in
theorem ok_X7_sheet {X : Xb} {S : Sg} {mi : Mem} {o : Nat} {v s n : Int32} (hM : MdA S o) : Ok 2 0 0 fX7_sheet X [rf X o, .int v, .int s, .int n] S mi (PE S (mSheet mi o v s n)) := by
  refine Ok.go [some (rf X o), some (.int v), some (.int s), some (.int n), none] (by decide) (by simp [Value.category]) (Nat.le_of_ble_eq_true rfl) rfl ?_
  obtain ⟨k_o, ⟨r_o_now, k_o_now⟩, ⟨r_o_image, k_o_image⟩, ⟨r_o_aside, k_o_aside⟩, ⟨r_o_seen, k_o_seen⟩, ⟨r_o_unlike, k_o_unlike⟩, ⟨r_o_tape, k_o_tape⟩, ⟨r_o_keys, k_o_keys⟩, ⟨r_o_keyAt, k_o_keyAt⟩, ⟨r_o_code, k_o_code⟩, ⟨r_o_waits, k_o_waits⟩, ⟨r_o_tested, k_o_tested⟩, ⟨r_o_stack, k_o_stack⟩, ⟨r_o_facts, k_o_facts⟩, ⟨r_o_sorts, k_o_sorts⟩, ⟨r_o_sizes, k_o_sizes⟩, ⟨r_o_cells, k_o_cells⟩, ⟨r_o_holds, k_o_holds⟩, ⟨r_o_holdsA, k_o_holdsA⟩, ⟨r_o_holdsB, k_o_holdsB⟩, ⟨r_o_heldCells, k_o_heldCells⟩, ⟨r_o_moved, k_o_moved⟩, ⟨r_o_tells, k_o_tells⟩⟩ := id hM
  have s66 : ∀ i, i < 4 → ∀ sz, mSheet mi o v s n = (sz, shM mi o i s sz) → MW X fX7_sheet (rmOf 2 0 0) 0 0 66 [some (rf X o), some (.int (nI i)), some (.int s), some (.int n), some (.int (nI 0))] [] S (m_up (m_up mi (o + 14) i s) (o + 15) i sz) (mQ X 0 0 (PE S (mSheet mi o v s n))) := by
    intro i hi sz hR
    have lp := mw_dn (P := fun k => MW X fX7_sheet (rmOf 2 0 0) 0 0 66 [some (rf X o), some (.int (nI i)), some (.int s), some (.int n), some (.int (nI k))] [] S (m_row (m_up (m_up mi (o + 14) i s) (o + 15) i sz) (o + 16) (zC (mi (o + 16)) i k)) (mQ X 0 0 (PE S (mSheet mi o v s n)))) 24 (by
      refine mw_iload dX7_sheet_66 rfl ?_
      refine mw_bipush (v := 24) dX7_sheet_68 (by decide) ?_
      refine mw_icmp_ge (tgt := 92) dX7_sheet_70 (by decide) (fun h70 => ?_) (fun h70 => ?_)
      · skip
        refine mw_aload_n dX7_sheet_92 rfl ?_
        refine mw_getr dX7_sheet_93 fl_X7_54 rfl (by assumption) (by assumption) ?_
        refine mw_iload_n dX7_sheet_96 rfl ?_
        refine mw_ialdK (k := i) dX7_sheet_97 (by assumption) (rfl) (by omega) (by decide) ?_
        rw [m_row_ne (show o + 15 ≠ o + 16 by omega), m_up_at]
        exact mw_iret dX7_sheet_98 rfl (by decide) (by decide) (by rw [hR]; exact ⟨rfl, rfl, rfl⟩)
      · skip
        exact absurd (by decide) h70) (fun k hk ih => by
      refine mw_iload dX7_sheet_66 rfl ?_
      refine mw_bipush (v := 24) dX7_sheet_68 (by decide) ?_
      refine mw_icmp_ge (tgt := 92) dX7_sheet_70 (by decide) (fun h70 => ?_) (fun h70 => ?_)
      · skip
        exact absurd h70 (nI_ge (b := 24) hk (by decide))
      · skip
        refine mw_aload_n dX7_sheet_73 rfl ?_
        refine mw_getr dX7_sheet_74 fl_X7_57 rfl (by assumption) (by assumption) ?_
        refine mw_bipush (v := 24) dX7_sheet_77 (by decide) ?_
        refine mw_iload_n dX7_sheet_79 rfl ?_
        refine mw_imul dX7_sheet_80 ?_
        refine mw_iload dX7_sheet_81 rfl ?_
        refine mw_iadd dX7_sheet_83 ?_
        rw [ix24]
        refine mw_iconst (v := 0) dX7_sheet_84 (by decide) ?_
        refine mw_iastK (k := 24 * i + k) dX7_sheet_85 (by assumption) (rfl) (by omega) (by decide) ?_
        rw [m_up_mrow, zC_s]
        refine mw_iincK (k := k) dX7_sheet_86 rfl rfl (by decide) ?_
        refine mw_goto (tgt := 66) dX7_sheet_89 (by decide) ?_
        exact MW.sub (by simp [lsub]) ih)
    have e0 : m_row (m_up (m_up mi (o + 14) i s) (o + 15) i sz) (o + 16) (zC (mi (o + 16)) i 0) = m_up (m_up mi (o + 14) i s) (o + 15) i sz := by
      have e : m_up (m_up mi (o + 14) i s) (o + 15) i sz (o + 16) = mi (o + 16) := by rw [m_up_ne (by omega), m_up_ne (by omega)]
      rw [zC_0, ← e, m_row_id]
    rw [e0] at lp
    exact lp
  refine mw_iload_n dX7_sheet_0 rfl ?_
  refine mw_cSI (g := fX7_isSheet) dX7_sheet_1 ml_X7_187 mfX7_isSheet (ok_X7_isSheet) rfl rfl (Nat.le_of_ble_eq_true rfl) ⟨by decide, by decide⟩ ⟨by decide, by decide⟩ ?_
  refine mw_if_eqB (tgt := 26) dX7_sheet_4 (by decide) (fun h4 => ?_) (fun h4 => ?_)
  · skip
    refine mw_ldc dX7_sheet_26 cn_X7_127 ?_
    exact mw_iret dX7_sheet_28 rfl (by decide) (by decide) (by first | (rw [mSheet, if_pos ⟨h4, h13⟩, if_neg h17, if_pos (Int32.not_le.mp h23)]; exact ⟨rfl, rfl, rfl⟩) | (rw [mSheet, if_neg (by grind)]; exact ⟨rfl, rfl, rfl⟩) | fail "leaf")
  · skip
    refine mw_iload_n dX7_sheet_7 rfl ?_
    refine mw_iconst (v := (-1)) dX7_sheet_8 (by decide) ?_
    refine mw_iconst (v := 1) dX7_sheet_9 (by decide) ?_
    refine mw_cSI (g := fX7_in) dX7_sheet_10 ml_X7_78 mfX7_in (ok_X7_in) rfl rfl (Nat.le_of_ble_eq_true rfl) ⟨by decide, by decide⟩ ⟨by decide, by decide⟩ ?_
    refine mw_if_eqB (tgt := 26) dX7_sheet_13 (by decide) (fun h13 => ?_) (fun h13 => ?_)
    · skip
      refine mw_ldc dX7_sheet_26 cn_X7_127 ?_
      exact mw_iret dX7_sheet_28 rfl (by decide) (by decide) (by first | (rw [mSheet, if_pos ⟨h4, h13⟩, if_neg h17, if_pos (Int32.not_le.mp h23)]; exact ⟨rfl, rfl, rfl⟩) | (rw [mSheet, if_neg (by grind)]; exact ⟨rfl, rfl, rfl⟩) | fail "leaf")
    · skip
      refine mw_iload_n dX7_sheet_16 rfl ?_
      refine mw_if_lt (tgt := 29) dX7_sheet_17 (by decide) (fun h17 => ?_) (fun h17 => ?_)
      · skip
        refine mw_iload_n dX7_sheet_29 rfl ?_
        refine mw_if_lt (tgt := 41) dX7_sheet_30 (by decide) (fun h30 => ?_) (fun h30 => ?_)
        · skip
          obtain ⟨i, hi, hv⟩ := inB 3 (by decide) h4
          have ev : v.toNatClampNeg = i := by rw [hv, nI_clamp (by omega)]
          refine mw_aload_n dX7_sheet_41 rfl ?_
          refine mw_getr dX7_sheet_42 fl_X7_51 rfl (by assumption) (by assumption) ?_
          refine mw_iload_n dX7_sheet_45 rfl ?_
          refine mw_iload_n dX7_sheet_46 rfl ?_
          refine mw_iastK (k := i) dX7_sheet_47 (by assumption) (hv) (by omega) (by decide) ?_
          refine mw_aload_n dX7_sheet_48 rfl ?_
          refine mw_getr dX7_sheet_49 fl_X7_54 rfl (by assumption) (by assumption) ?_
          refine mw_iload_n dX7_sheet_52 rfl ?_
          refine mw_iload_n dX7_sheet_53 rfl ?_
          refine mw_if_ge (tgt := 61) dX7_sheet_54 (by decide) (fun h54 => ?_) (fun h54 => ?_)
          · skip
            refine mw_iload_n dX7_sheet_61 rfl ?_
            refine mw_iastK (k := i) dX7_sheet_62 (by assumption) (hv) (by omega) (by decide) ?_
            refine mw_iconst (v := 0) dX7_sheet_63 (by decide) ?_
            refine mw_istore dX7_sheet_64 (by decide) ?_
            first
              | exact absurd h17 h30
              | exact absurd h30 h17
              | exact absurd h54 (Int32.not_le.mpr h17)
              | exact absurd (Int32.not_lt.mp h17) h54
              | (have gg := s66 i (by omega) 0 (by rw [mSheet, if_pos ⟨h4, h13⟩, if_pos h17, ev]); rw [← hv] at gg; exact MW.sub (by simp [lsub, nI_0]) gg)
              | (have gg := s66 i (by omega) n (by rw [mSheet, if_pos ⟨h4, h13⟩, if_neg h17, if_neg (Int32.not_lt.mpr h23), if_neg (Int32.not_lt.mpr h34), ev]); rw [← hv] at gg; exact MW.sub (by simp [lsub, nI_0]) gg)
              | fail "stop"
          · skip
            refine mw_iconst (v := 0) dX7_sheet_57 (by decide) ?_
            refine mw_goto (tgt := 62) dX7_sheet_58 (by decide) ?_
            refine mw_iastK (k := i) dX7_sheet_62 (by assumption) (hv) (by omega) (by decide) ?_
            refine mw_iconst (v := 0) dX7_sheet_63 (by decide) ?_
            refine mw_istore dX7_sheet_64 (by decide) ?_
            first
              | exact absurd h17 h30
              | exact absurd h30 h17
              | exact absurd h54 (Int32.not_le.mpr h17)
              | exact absurd (Int32.not_lt.mp h17) h54
              | (have gg := s66 i (by omega) 0 (by rw [mSheet, if_pos ⟨h4, h13⟩, if_pos h17, ev]); rw [← hv] at gg; exact MW.sub (by simp [lsub, nI_0]) gg)
              | (have gg := s66 i (by omega) n (by rw [mSheet, if_pos ⟨h4, h13⟩, if_neg h17, if_neg (Int32.not_lt.mpr h23), if_neg (Int32.not_lt.mpr h34), ev]); rw [← hv] at gg; exact MW.sub (by simp [lsub, nI_0]) gg)
              | fail "stop"
        · skip
          refine mw_iload_n dX7_sheet_33 rfl ?_
          refine mw_if_ge (tgt := 41) dX7_sheet_34 (by decide) (fun h34 => ?_) (fun h34 => ?_)
          · skip
            obtain ⟨i, hi, hv⟩ := inB 3 (by decide) h4
            have ev : v.toNatClampNeg = i := by rw [hv, nI_clamp (by omega)]
            refine mw_aload_n dX7_sheet_41 rfl ?_
            refine mw_getr dX7_sheet_42 fl_X7_51 rfl (by assumption) (by assumption) ?_
            refine mw_iload_n dX7_sheet_45 rfl ?_
            refine mw_iload_n dX7_sheet_46 rfl ?_
            refine mw_iastK (k := i) dX7_sheet_47 (by assumption) (hv) (by omega) (by decide) ?_
            refine mw_aload_n dX7_sheet_48 rfl ?_
            refine mw_getr dX7_sheet_49 fl_X7_54 rfl (by assumption) (by assumption) ?_
            refine mw_iload_n dX7_sheet_52 rfl ?_
            refine mw_iload_n dX7_sheet_53 rfl ?_
            refine mw_if_ge (tgt := 61) dX7_sheet_54 (by decide) (fun h54 => ?_) (fun h54 => ?_)
            · skip
              refine mw_iload_n dX7_sheet_61 rfl ?_
              refine mw_iastK (k := i) dX7_sheet_62 (by assumption) (hv) (by omega) (by decide) ?_
              refine mw_iconst (v := 0) dX7_sheet_63 (by decide) ?_
              refine mw_istore dX7_sheet_64 (by decide) ?_
              first
                | exact absurd h17 h30
                | exact absurd h30 h17
                | exact absurd h54 (Int32.not_le.mpr h17)
                | exact absurd (Int32.not_lt.mp h17) h54
                | (have gg := s66 i (by omega) 0 (by rw [mSheet, if_pos ⟨h4, h13⟩, if_pos h17, ev]); rw [← hv] at gg; exact MW.sub (by simp [lsub, nI_0]) gg)
                | (have gg := s66 i (by omega) n (by rw [mSheet, if_pos ⟨h4, h13⟩, if_neg h17, if_neg (Int32.not_lt.mpr h23), if_neg (Int32.not_lt.mpr h34), ev]); rw [← hv] at gg; exact MW.sub (by simp [lsub, nI_0]) gg)
                | fail "stop"
            · skip
              refine mw_iconst (v := 0) dX7_sheet_57 (by decide) ?_
              refine mw_goto (tgt := 62) dX7_sheet_58 (by decide) ?_
              refine mw_iastK (k := i) dX7_sheet_62 (by assumption) (hv) (by omega) (by decide) ?_
              refine mw_iconst (v := 0) dX7_sheet_63 (by decide) ?_
              refine mw_istore dX7_sheet_64 (by decide) ?_
              first
                | exact absurd h17 h30
                | exact absurd h30 h17
                | exact absurd h54 (Int32.not_le.mpr h17)
                | exact absurd (Int32.not_lt.mp h17) h54
                | (have gg := s66 i (by omega) 0 (by rw [mSheet, if_pos ⟨h4, h13⟩, if_pos h17, ev]); rw [← hv] at gg; exact MW.sub (by simp [lsub, nI_0]) gg)
                | (have gg := s66 i (by omega) n (by rw [mSheet, if_pos ⟨h4, h13⟩, if_neg h17, if_neg (Int32.not_lt.mpr h23), if_neg (Int32.not_lt.mpr h34), ev]); rw [← hv] at gg; exact MW.sub (by simp [lsub, nI_0]) gg)
                | fail "stop"
          · skip
            refine mw_ldcw dX7_sheet_37 cn_X7_262 ?_
            exact mw_iret dX7_sheet_40 rfl (by decide) (by decide) (by first | exact absurd h17 h30 | (rw [mSheet, if_pos ⟨h4, h13⟩, if_neg h17, if_neg (Int32.not_lt.mpr h23), if_pos (Int32.not_le.mp h34)]; exact ⟨rfl, rfl, rfl⟩) | fail "leaf")
      · skip
        refine mw_iload_n dX7_sheet_20 rfl ?_
        refine mw_bipush (v := 24) dX7_sheet_21 (by decide) ?_
        refine mw_icmp_le (tgt := 29) dX7_sheet_23 (by decide) (fun h23 => ?_) (fun h23 => ?_)
        · skip
          refine mw_iload_n dX7_sheet_29 rfl ?_
          refine mw_if_lt (tgt := 41) dX7_sheet_30 (by decide) (fun h30 => ?_) (fun h30 => ?_)
          · skip
            obtain ⟨i, hi, hv⟩ := inB 3 (by decide) h4
            have ev : v.toNatClampNeg = i := by rw [hv, nI_clamp (by omega)]
            refine mw_aload_n dX7_sheet_41 rfl ?_
            refine mw_getr dX7_sheet_42 fl_X7_51 rfl (by assumption) (by assumption) ?_
            refine mw_iload_n dX7_sheet_45 rfl ?_
            refine mw_iload_n dX7_sheet_46 rfl ?_
            refine mw_iastK (k := i) dX7_sheet_47 (by assumption) (hv) (by omega) (by decide) ?_
            refine mw_aload_n dX7_sheet_48 rfl ?_
            refine mw_getr dX7_sheet_49 fl_X7_54 rfl (by assumption) (by assumption) ?_
            refine mw_iload_n dX7_sheet_52 rfl ?_
            refine mw_iload_n dX7_sheet_53 rfl ?_
            refine mw_if_ge (tgt := 61) dX7_sheet_54 (by decide) (fun h54 => ?_) (fun h54 => ?_)
            · skip
              refine mw_iload_n dX7_sheet_61 rfl ?_
              refine mw_iastK (k := i) dX7_sheet_62 (by assumption) (hv) (by omega) (by decide) ?_
              refine mw_iconst (v := 0) dX7_sheet_63 (by decide) ?_
              refine mw_istore dX7_sheet_64 (by decide) ?_
              first
                | exact absurd h17 h30
                | exact absurd h30 h17
                | exact absurd h54 (Int32.not_le.mpr h17)
                | exact absurd (Int32.not_lt.mp h17) h54
                | (have gg := s66 i (by omega) 0 (by rw [mSheet, if_pos ⟨h4, h13⟩, if_pos h17, ev]); rw [← hv] at gg; exact MW.sub (by simp [lsub, nI_0]) gg)
                | (have gg := s66 i (by omega) n (by rw [mSheet, if_pos ⟨h4, h13⟩, if_neg h17, if_neg (Int32.not_lt.mpr h23), if_neg (Int32.not_lt.mpr h34), ev]); rw [← hv] at gg; exact MW.sub (by simp [lsub, nI_0]) gg)
                | fail "stop"
            · skip
              refine mw_iconst (v := 0) dX7_sheet_57 (by decide) ?_
              refine mw_goto (tgt := 62) dX7_sheet_58 (by decide) ?_
              refine mw_iastK (k := i) dX7_sheet_62 (by assumption) (hv) (by omega) (by decide) ?_
              refine mw_iconst (v := 0) dX7_sheet_63 (by decide) ?_
              refine mw_istore dX7_sheet_64 (by decide) ?_
              first
                | exact absurd h17 h30
                | exact absurd h30 h17
                | exact absurd h54 (Int32.not_le.mpr h17)
                | exact absurd (Int32.not_lt.mp h17) h54
                | (have gg := s66 i (by omega) 0 (by rw [mSheet, if_pos ⟨h4, h13⟩, if_pos h17, ev]); rw [← hv] at gg; exact MW.sub (by simp [lsub, nI_0]) gg)
                | (have gg := s66 i (by omega) n (by rw [mSheet, if_pos ⟨h4, h13⟩, if_neg h17, if_neg (Int32.not_lt.mpr h23), if_neg (Int32.not_lt.mpr h34), ev]); rw [← hv] at gg; exact MW.sub (by simp [lsub, nI_0]) gg)
                | fail "stop"
          · skip
            refine mw_iload_n dX7_sheet_33 rfl ?_
            refine mw_if_ge (tgt := 41) dX7_sheet_34 (by decide) (fun h34 => ?_) (fun h34 => ?_)
            · skip
              obtain ⟨i, hi, hv⟩ := inB 3 (by decide) h4
              have ev : v.toNatClampNeg = i := by rw [hv, nI_clamp (by omega)]
              refine mw_aload_n dX7_sheet_41 rfl ?_
              refine mw_getr dX7_sheet_42 fl_X7_51 rfl (by assumption) (by assumption) ?_
              refine mw_iload_n dX7_sheet_45 rfl ?_
              refine mw_iload_n dX7_sheet_46 rfl ?_
              refine mw_iastK (k := i) dX7_sheet_47 (by assumption) (hv) (by omega) (by decide) ?_
              refine mw_aload_n dX7_sheet_48 rfl ?_
              refine mw_getr dX7_sheet_49 fl_X7_54 rfl (by assumption) (by assumption) ?_
              refine mw_iload_n dX7_sheet_52 rfl ?_
              refine mw_iload_n dX7_sheet_53 rfl ?_
              refine mw_if_ge (tgt := 61) dX7_sheet_54 (by decide) (fun h54 => ?_) (fun h54 => ?_)
              · skip
                refine mw_iload_n dX7_sheet_61 rfl ?_
                refine mw_iastK (k := i) dX7_sheet_62 (by assumption) (hv) (by omega) (by decide) ?_
                refine mw_iconst (v := 0) dX7_sheet_63 (by decide) ?_
                refine mw_istore dX7_sheet_64 (by decide) ?_
                first
                  | exact absurd h17 h30
                  | exact absurd h30 h17
                  | exact absurd h54 (Int32.not_le.mpr h17)
                  | exact absurd (Int32.not_lt.mp h17) h54
                  | (have gg := s66 i (by omega) 0 (by rw [mSheet, if_pos ⟨h4, h13⟩, if_pos h17, ev]); rw [← hv] at gg; exact MW.sub (by simp [lsub, nI_0]) gg)
                  | (have gg := s66 i (by omega) n (by rw [mSheet, if_pos ⟨h4, h13⟩, if_neg h17, if_neg (Int32.not_lt.mpr h23), if_neg (Int32.not_lt.mpr h34), ev]); rw [← hv] at gg; exact MW.sub (by simp [lsub, nI_0]) gg)
                  | fail "stop"
              · skip
                refine mw_iconst (v := 0) dX7_sheet_57 (by decide) ?_
                refine mw_goto (tgt := 62) dX7_sheet_58 (by decide) ?_
                refine mw_iastK (k := i) dX7_sheet_62 (by assumption) (hv) (by omega) (by decide) ?_
                refine mw_iconst (v := 0) dX7_sheet_63 (by decide) ?_
                refine mw_istore dX7_sheet_64 (by decide) ?_
                first
                  | exact absurd h17 h30
                  | exact absurd h30 h17
                  | exact absurd h54 (Int32.not_le.mpr h17)
                  | exact absurd (Int32.not_lt.mp h17) h54
                  | (have gg := s66 i (by omega) 0 (by rw [mSheet, if_pos ⟨h4, h13⟩, if_pos h17, ev]); rw [← hv] at gg; exact MW.sub (by simp [lsub, nI_0]) gg)
                  | (have gg := s66 i (by omega) n (by rw [mSheet, if_pos ⟨h4, h13⟩, if_neg h17, if_neg (Int32.not_lt.mpr h23), if_neg (Int32.not_lt.mpr h34), ev]); rw [← hv] at gg; exact MW.sub (by simp [lsub, nI_0]) gg)
                  | fail "stop"
            · skip
              refine mw_ldcw dX7_sheet_37 cn_X7_262 ?_
              exact mw_iret dX7_sheet_40 rfl (by decide) (by decide) (by first | exact absurd h17 h30 | (rw [mSheet, if_pos ⟨h4, h13⟩, if_neg h17, if_neg (Int32.not_lt.mpr h23), if_pos (Int32.not_le.mp h34)]; exact ⟨rfl, rfl, rfl⟩) | fail "leaf")
        · skip
          refine mw_ldc dX7_sheet_26 cn_X7_127 ?_
          exact mw_iret dX7_sheet_28 rfl (by decide) (by decide) (by first | (rw [mSheet, if_pos ⟨h4, h13⟩, if_neg h17, if_pos (Int32.not_le.mp h23)]; exact ⟨rfl, rfl, rfl⟩) | (rw [mSheet, if_neg (by grind)]; exact ⟨rfl, rfl, rfl⟩) | fail "leaf")
/-- the model's sizes are numbers up to 24 -/
def MsZ (mi : Mem) (o : Nat) : Prop := ∀ i, i < 4 → ∃ z, z ≤ 24 ∧ mi (o + 15) i = nI z
def mMark (mi : Mem) (o : Nat) (v p w : Int32) : Int32 × Mem := if 0 ≤ v ∧ v ≤ 3 then (if mi (o + 14) v.toNatClampNeg < 0 then (NOTHINGi, mi) else if ¬ (0 ≤ p ∧ p ≤ mi (o + 15) v.toNatClampNeg - 1) then (INDEXi, mi) else if mi (o + 14) v.toNatClampNeg = 0 ∧ w = NONEi then (KINDi, mi) else if mi (o + 14) v.toNatClampNeg = 1 ∧ w ≠ NONEi ∧ ¬ (-99999 ≤ w ∧ w ≤ 99999) then (BADi, mi) else (1, m_up mi (o + 16) (24 * v.toNatClampNeg + p.toNatClampNeg) (if mi (o + 14) v.toNatClampNeg = 0 then w.toInt16.toInt32 else w))) else (BADi, mi)
theorem dX7_mark_0 : decode fX7_mark.2.1 0 = .ok (.iload_n 1, 1) := by decide +kernel
theorem dX7_mark_1 : decode fX7_mark.2.1 1 = .ok (.invokestatic 187, 3) := by decide +kernel
theorem dX7_mark_4 : decode fX7_mark.2.1 4 = .ok (.ifCond .ne 6, 3) := by decide +kernel
theorem dX7_mark_7 : decode fX7_mark.2.1 7 = .ok (.ldc 127, 2) := by decide +kernel
theorem dX7_mark_9 : decode fX7_mark.2.1 9 = .ok (.ireturn, 1) := by decide +kernel
theorem dX7_mark_10 : decode fX7_mark.2.1 10 = .ok (.aload_n 0, 1) := by decide +kernel
theorem dX7_mark_11 : decode fX7_mark.2.1 11 = .ok (.getfield 51, 3) := by decide +kernel
theorem dX7_mark_14 : decode fX7_mark.2.1 14 = .ok (.iload_n 1, 1) := by decide +kernel
theorem dX7_mark_15 : decode fX7_mark.2.1 15 = .ok (.iaload, 1) := by decide +kernel
theorem dX7_mark_16 : decode fX7_mark.2.1 16 = .ok (.ifCond .ge 6, 3) := by decide +kernel
theorem dX7_mark_19 : decode fX7_mark.2.1 19 = .ok (.ldc 190, 2) := by decide +kernel
theorem dX7_mark_21 : decode fX7_mark.2.1 21 = .ok (.ireturn, 1) := by decide +kernel
theorem dX7_mark_22 : decode fX7_mark.2.1 22 = .ok (.iload_n 2, 1) := by decide +kernel
theorem dX7_mark_23 : decode fX7_mark.2.1 23 = .ok (.iconst 0, 1) := by decide +kernel
theorem dX7_mark_24 : decode fX7_mark.2.1 24 = .ok (.aload_n 0, 1) := by decide +kernel
theorem dX7_mark_25 : decode fX7_mark.2.1 25 = .ok (.getfield 54, 3) := by decide +kernel
theorem dX7_mark_28 : decode fX7_mark.2.1 28 = .ok (.iload_n 1, 1) := by decide +kernel
theorem dX7_mark_29 : decode fX7_mark.2.1 29 = .ok (.iaload, 1) := by decide +kernel
theorem dX7_mark_30 : decode fX7_mark.2.1 30 = .ok (.iconst 1, 1) := by decide +kernel
theorem dX7_mark_31 : decode fX7_mark.2.1 31 = .ok (.isub, 1) := by decide +kernel
theorem dX7_mark_32 : decode fX7_mark.2.1 32 = .ok (.invokestatic 78, 3) := by decide +kernel
theorem dX7_mark_35 : decode fX7_mark.2.1 35 = .ok (.ifCond .ne 7, 3) := by decide +kernel
theorem dX7_mark_38 : decode fX7_mark.2.1 38 = .ok (.ldc_w 263, 3) := by decide +kernel
theorem dX7_mark_41 : decode fX7_mark.2.1 41 = .ok (.ireturn, 1) := by decide +kernel
theorem dX7_mark_42 : decode fX7_mark.2.1 42 = .ok (.aload_n 0, 1) := by decide +kernel
theorem dX7_mark_43 : decode fX7_mark.2.1 43 = .ok (.getfield 51, 3) := by decide +kernel
theorem dX7_mark_46 : decode fX7_mark.2.1 46 = .ok (.iload_n 1, 1) := by decide +kernel
theorem dX7_mark_47 : decode fX7_mark.2.1 47 = .ok (.iaload, 1) := by decide +kernel
theorem dX7_mark_48 : decode fX7_mark.2.1 48 = .ok (.ifCond .ne 12, 3) := by decide +kernel
theorem dX7_mark_51 : decode fX7_mark.2.1 51 = .ok (.iload_n 3, 1) := by decide +kernel
theorem dX7_mark_52 : decode fX7_mark.2.1 52 = .ok (.ldc 172, 2) := by decide +kernel
theorem dX7_mark_54 : decode fX7_mark.2.1 54 = .ok (.if_icmp .ne 6, 3) := by decide +kernel
theorem dX7_mark_57 : decode fX7_mark.2.1 57 = .ok (.ldc 141, 2) := by decide +kernel
theorem dX7_mark_59 : decode fX7_mark.2.1 59 = .ok (.ireturn, 1) := by decide +kernel
theorem dX7_mark_60 : decode fX7_mark.2.1 60 = .ok (.aload_n 0, 1) := by decide +kernel
theorem dX7_mark_61 : decode fX7_mark.2.1 61 = .ok (.getfield 51, 3) := by decide +kernel
theorem dX7_mark_64 : decode fX7_mark.2.1 64 = .ok (.iload_n 1, 1) := by decide +kernel
theorem dX7_mark_65 : decode fX7_mark.2.1 65 = .ok (.iaload, 1) := by decide +kernel
theorem dX7_mark_66 : decode fX7_mark.2.1 66 = .ok (.iconst 1, 1) := by decide +kernel
theorem dX7_mark_67 : decode fX7_mark.2.1 67 = .ok (.if_icmp .ne 25, 3) := by decide +kernel
theorem dX7_mark_70 : decode fX7_mark.2.1 70 = .ok (.iload_n 3, 1) := by decide +kernel
theorem dX7_mark_71 : decode fX7_mark.2.1 71 = .ok (.ldc 172, 2) := by decide +kernel
theorem dX7_mark_73 : decode fX7_mark.2.1 73 = .ok (.if_icmp .eq 19, 3) := by decide +kernel
theorem dX7_mark_76 : decode fX7_mark.2.1 76 = .ok (.iload_n 3, 1) := by decide +kernel
theorem dX7_mark_77 : decode fX7_mark.2.1 77 = .ok (.ldc_w 264, 3) := by decide +kernel
theorem dX7_mark_80 : decode fX7_mark.2.1 80 = .ok (.ldc_w 265, 3) := by decide +kernel
theorem dX7_mark_83 : decode fX7_mark.2.1 83 = .ok (.invokestatic 78, 3) := by decide +kernel
theorem dX7_mark_86 : decode fX7_mark.2.1 86 = .ok (.ifCond .ne 6, 3) := by decide +kernel
theorem dX7_mark_89 : decode fX7_mark.2.1 89 = .ok (.ldc 127, 2) := by decide +kernel
theorem dX7_mark_91 : decode fX7_mark.2.1 91 = .ok (.ireturn, 1) := by decide +kernel
theorem dX7_mark_92 : decode fX7_mark.2.1 92 = .ok (.aload_n 0, 1) := by decide +kernel
theorem dX7_mark_93 : decode fX7_mark.2.1 93 = .ok (.getfield 57, 3) := by decide +kernel
theorem dX7_mark_96 : decode fX7_mark.2.1 96 = .ok (.bipush 24, 2) := by decide +kernel
theorem dX7_mark_98 : decode fX7_mark.2.1 98 = .ok (.iload_n 1, 1) := by decide +kernel
theorem dX7_mark_99 : decode fX7_mark.2.1 99 = .ok (.imul, 1) := by decide +kernel
theorem dX7_mark_100 : decode fX7_mark.2.1 100 = .ok (.iload_n 2, 1) := by decide +kernel
theorem dX7_mark_101 : decode fX7_mark.2.1 101 = .ok (.iadd, 1) := by decide +kernel
theorem dX7_mark_102 : decode fX7_mark.2.1 102 = .ok (.aload_n 0, 1) := by decide +kernel
theorem dX7_mark_103 : decode fX7_mark.2.1 103 = .ok (.getfield 51, 3) := by decide +kernel
theorem dX7_mark_106 : decode fX7_mark.2.1 106 = .ok (.iload_n 1, 1) := by decide +kernel
theorem dX7_mark_107 : decode fX7_mark.2.1 107 = .ok (.iaload, 1) := by decide +kernel
theorem dX7_mark_108 : decode fX7_mark.2.1 108 = .ok (.ifCond .ne 8, 3) := by decide +kernel
theorem dX7_mark_111 : decode fX7_mark.2.1 111 = .ok (.iload_n 3, 1) := by decide +kernel
theorem dX7_mark_112 : decode fX7_mark.2.1 112 = .ok (.i2s, 1) := by decide +kernel
theorem dX7_mark_113 : decode fX7_mark.2.1 113 = .ok (.goto 4, 3) := by decide +kernel
theorem dX7_mark_116 : decode fX7_mark.2.1 116 = .ok (.iload_n 3, 1) := by decide +kernel
theorem dX7_mark_117 : decode fX7_mark.2.1 117 = .ok (.iastore, 1) := by decide +kernel
theorem dX7_mark_118 : decode fX7_mark.2.1 118 = .ok (.iconst 1, 1) := by decide +kernel
theorem dX7_mark_119 : decode fX7_mark.2.1 119 = .ok (.ireturn, 1) := by decide +kernel
set_option maxRecDepth 100000 in
set_option maxHeartbeats 4000000 in
theorem ok_X7_mark {X : Xb} {S : Sg} {mi : Mem} {o : Nat} {v p w : Int32} (hM : MdA S o) (hZ : MsZ mi o) : Ok 2 0 0 fX7_mark X [rf X o, .int v, .int p, .int w] S mi (PE S (mMark mi o v p w)) := by
  refine Ok.go [some (rf X o), some (.int v), some (.int p), some (.int w)] (by decide) (by simp [Value.category]) (Nat.le_of_ble_eq_true rfl) rfl ?_
  obtain ⟨k_o, ⟨r_o_now, k_o_now⟩, ⟨r_o_image, k_o_image⟩, ⟨r_o_aside, k_o_aside⟩, ⟨r_o_seen, k_o_seen⟩, ⟨r_o_unlike, k_o_unlike⟩, ⟨r_o_tape, k_o_tape⟩, ⟨r_o_keys, k_o_keys⟩, ⟨r_o_keyAt, k_o_keyAt⟩, ⟨r_o_code, k_o_code⟩, ⟨r_o_waits, k_o_waits⟩, ⟨r_o_tested, k_o_tested⟩, ⟨r_o_stack, k_o_stack⟩, ⟨r_o_facts, k_o_facts⟩, ⟨r_o_sorts, k_o_sorts⟩, ⟨r_o_sizes, k_o_sizes⟩, ⟨r_o_cells, k_o_cells⟩, ⟨r_o_holds, k_o_holds⟩, ⟨r_o_holdsA, k_o_holdsA⟩, ⟨r_o_holdsB, k_o_holdsB⟩, ⟨r_o_heldCells, k_o_heldCells⟩, ⟨r_o_moved, k_o_moved⟩, ⟨r_o_tells, k_o_tells⟩⟩ := id hM
  refine mw_iload_n dX7_mark_0 rfl ?_
  refine mw_cSI (g := fX7_isSheet) dX7_mark_1 ml_X7_187 mfX7_isSheet (ok_X7_isSheet) rfl rfl (Nat.le_of_ble_eq_true rfl) ⟨by decide, by decide⟩ ⟨by decide, by decide⟩ ?_
  refine mw_if_neB (tgt := 10) dX7_mark_4 (by decide) (fun h4 => ?_) (fun h4 => ?_)
  · skip
    obtain ⟨i, hi, rfl⟩ := inB 3 (by decide) h4
    have ev : (nI i).toNatClampNeg = i := nI_clamp (by omega)
    obtain ⟨z, z24, hz⟩ := hZ i (by omega)
    refine mw_aload_n dX7_mark_10 rfl ?_
    refine mw_getr dX7_mark_11 fl_X7_51 rfl (by assumption) (by assumption) ?_
    refine mw_iload_n dX7_mark_14 rfl ?_
    refine mw_ialdK (k := i) dX7_mark_15 (by assumption) (rfl) (by omega) (by decide) ?_
    refine mw_if_ge (tgt := 22) dX7_mark_16 (by decide) (fun h16 => ?_) (fun h16 => ?_)
    · skip
      refine mw_iload_n dX7_mark_22 rfl ?_
      refine mw_iconst (v := 0) dX7_mark_23 (by decide) ?_
      refine mw_aload_n dX7_mark_24 rfl ?_
      refine mw_getr dX7_mark_25 fl_X7_54 rfl (by assumption) (by assumption) ?_
      refine mw_iload_n dX7_mark_28 rfl ?_
      refine mw_ialdK (k := i) dX7_mark_29 (by assumption) (rfl) (by omega) (by decide) ?_
      refine mw_iconst (v := 1) dX7_mark_30 (by decide) ?_
      refine mw_isub dX7_mark_31 ?_
      refine mw_cSI (g := fX7_in) dX7_mark_32 ml_X7_78 mfX7_in (ok_X7_in) rfl rfl (Nat.le_of_ble_eq_true rfl) ⟨by decide, by decide⟩ ⟨by decide, by decide⟩ ?_
      refine mw_if_neB (tgt := 42) dX7_mark_35 (by decide) (fun h35 => ?_) (fun h35 => ?_)
      · skip
        have hp := h35
        rw [hz] at hp
        obtain ⟨a, ha, rfl⟩ := inN hp (by omega)
        have ep : (nI a).toNatClampNeg = a := nI_clamp (by omega)
        refine mw_aload_n dX7_mark_42 rfl ?_
        refine mw_getr dX7_mark_43 fl_X7_51 rfl (by assumption) (by assumption) ?_
        refine mw_iload_n dX7_mark_46 rfl ?_
        refine mw_ialdK (k := i) dX7_mark_47 (by assumption) (rfl) (by omega) (by decide) ?_
        refine mw_if_ne (tgt := 60) dX7_mark_48 (by decide) (fun h48 => ?_) (fun h48 => ?_)
        · skip
          refine mw_aload_n dX7_mark_60 rfl ?_
          refine mw_getr dX7_mark_61 fl_X7_51 rfl (by assumption) (by assumption) ?_
          refine mw_iload_n dX7_mark_64 rfl ?_
          refine mw_ialdK (k := i) dX7_mark_65 (by assumption) (rfl) (by omega) (by decide) ?_
          refine mw_iconst (v := 1) dX7_mark_66 (by decide) ?_
          refine mw_icmp_ne (tgt := 92) dX7_mark_67 (by decide) (fun h67 => ?_) (fun h67 => ?_)
          · skip
            refine mw_aload_n dX7_mark_92 rfl ?_
            refine mw_getr dX7_mark_93 fl_X7_57 rfl (by assumption) (by assumption) ?_
            refine mw_bipush (v := 24) dX7_mark_96 (by decide) ?_
            refine mw_iload_n dX7_mark_98 rfl ?_
            refine mw_imul dX7_mark_99 ?_
            refine mw_iload_n dX7_mark_100 rfl ?_
            refine mw_iadd dX7_mark_101 ?_
            rw [ix24]
            refine mw_aload_n dX7_mark_102 rfl ?_
            refine mw_getr dX7_mark_103 fl_X7_51 rfl (by assumption) (by assumption) ?_
            refine mw_iload_n dX7_mark_106 rfl ?_
            refine mw_ialdK (k := i) dX7_mark_107 (by assumption) (rfl) (by omega) (by decide) ?_
            refine mw_if_ne (tgt := 116) dX7_mark_108 (by decide) (fun h108 => ?_) (fun h108 => ?_)
            · skip
              refine mw_iload_n dX7_mark_116 rfl ?_
              refine mw_iastK (k := 24 * i + a) dX7_mark_117 (by assumption) (rfl) (by omega) (by decide) ?_
              refine mw_iconst (v := 1) dX7_mark_118 (by decide) ?_
              exact mw_iret dX7_mark_119 rfl (by decide) (by decide) (by rw [mMark, if_pos h4, ev, if_neg (Int32.not_lt.mpr h16), if_neg (fun g => g h35), if_neg (by grind), if_neg (by grind), ep]; first | (rw [if_pos h108]; exact ⟨rfl, rfl, rfl⟩) | (rw [if_neg h108]; exact ⟨rfl, rfl, rfl⟩) | fail "leaf")
            · skip
              refine mw_iload_n dX7_mark_111 rfl ?_
              refine mw_i2s dX7_mark_112 ?_
              refine mw_goto (tgt := 117) dX7_mark_113 (by decide) ?_
              refine mw_iastK (k := 24 * i + a) dX7_mark_117 (by assumption) (rfl) (by omega) (by decide) ?_
              refine mw_iconst (v := 1) dX7_mark_118 (by decide) ?_
              exact mw_iret dX7_mark_119 rfl (by decide) (by decide) (by rw [mMark, if_pos h4, ev, if_neg (Int32.not_lt.mpr h16), if_neg (fun g => g h35), if_neg (by grind), if_neg (by grind), ep]; first | (rw [if_pos h108]; exact ⟨rfl, rfl, rfl⟩) | (rw [if_neg h108]; exact ⟨rfl, rfl, rfl⟩) | fail "leaf")
          · skip
            refine mw_iload_n dX7_mark_70 rfl ?_
            refine mw_ldc dX7_mark_71 cn_X7_172 ?_
            refine mw_icmp_eq (tgt := 92) dX7_mark_73 (by decide) (fun h73 => ?_) (fun h73 => ?_)
            · skip
              refine mw_aload_n dX7_mark_92 rfl ?_
              refine mw_getr dX7_mark_93 fl_X7_57 rfl (by assumption) (by assumption) ?_
              refine mw_bipush (v := 24) dX7_mark_96 (by decide) ?_
              refine mw_iload_n dX7_mark_98 rfl ?_
              refine mw_imul dX7_mark_99 ?_
              refine mw_iload_n dX7_mark_100 rfl ?_
              refine mw_iadd dX7_mark_101 ?_
              rw [ix24]
              refine mw_aload_n dX7_mark_102 rfl ?_
              refine mw_getr dX7_mark_103 fl_X7_51 rfl (by assumption) (by assumption) ?_
              refine mw_iload_n dX7_mark_106 rfl ?_
              refine mw_ialdK (k := i) dX7_mark_107 (by assumption) (rfl) (by omega) (by decide) ?_
              refine mw_if_ne (tgt := 116) dX7_mark_108 (by decide) (fun h108 => ?_) (fun h108 => ?_)
              · skip
                refine mw_iload_n dX7_mark_116 rfl ?_
                refine mw_iastK (k := 24 * i + a) dX7_mark_117 (by assumption) (rfl) (by omega) (by decide) ?_
                refine mw_iconst (v := 1) dX7_mark_118 (by decide) ?_
                exact mw_iret dX7_mark_119 rfl (by decide) (by decide) (by rw [mMark, if_pos h4, ev, if_neg (Int32.not_lt.mpr h16), if_neg (fun g => g h35), if_neg (by grind), if_neg (by grind), ep]; first | (rw [if_pos h108]; exact ⟨rfl, rfl, rfl⟩) | (rw [if_neg h108]; exact ⟨rfl, rfl, rfl⟩) | fail "leaf")
              · skip
                refine mw_iload_n dX7_mark_111 rfl ?_
                refine mw_i2s dX7_mark_112 ?_
                refine mw_goto (tgt := 117) dX7_mark_113 (by decide) ?_
                refine mw_iastK (k := 24 * i + a) dX7_mark_117 (by assumption) (rfl) (by omega) (by decide) ?_
                refine mw_iconst (v := 1) dX7_mark_118 (by decide) ?_
                exact mw_iret dX7_mark_119 rfl (by decide) (by decide) (by rw [mMark, if_pos h4, ev, if_neg (Int32.not_lt.mpr h16), if_neg (fun g => g h35), if_neg (by grind), if_neg (by grind), ep]; first | (rw [if_pos h108]; exact ⟨rfl, rfl, rfl⟩) | (rw [if_neg h108]; exact ⟨rfl, rfl, rfl⟩) | fail "leaf")
            · skip
              refine mw_iload_n dX7_mark_76 rfl ?_
              refine mw_ldcw dX7_mark_77 cn_X7_264 ?_
              refine mw_ldcw dX7_mark_80 cn_X7_265 ?_
              refine mw_cSI (g := fX7_in) dX7_mark_83 ml_X7_78 mfX7_in (ok_X7_in) rfl rfl (Nat.le_of_ble_eq_true rfl) ⟨by decide, by decide⟩ ⟨by decide, by decide⟩ ?_
              refine mw_if_neB (tgt := 92) dX7_mark_86 (by decide) (fun h86 => ?_) (fun h86 => ?_)
              · skip
                refine mw_aload_n dX7_mark_92 rfl ?_
                refine mw_getr dX7_mark_93 fl_X7_57 rfl (by assumption) (by assumption) ?_
                refine mw_bipush (v := 24) dX7_mark_96 (by decide) ?_
                refine mw_iload_n dX7_mark_98 rfl ?_
                refine mw_imul dX7_mark_99 ?_
                refine mw_iload_n dX7_mark_100 rfl ?_
                refine mw_iadd dX7_mark_101 ?_
                rw [ix24]
                refine mw_aload_n dX7_mark_102 rfl ?_
                refine mw_getr dX7_mark_103 fl_X7_51 rfl (by assumption) (by assumption) ?_
                refine mw_iload_n dX7_mark_106 rfl ?_
                refine mw_ialdK (k := i) dX7_mark_107 (by assumption) (rfl) (by omega) (by decide) ?_
                refine mw_if_ne (tgt := 116) dX7_mark_108 (by decide) (fun h108 => ?_) (fun h108 => ?_)
                · skip
                  refine mw_iload_n dX7_mark_116 rfl ?_
                  refine mw_iastK (k := 24 * i + a) dX7_mark_117 (by assumption) (rfl) (by omega) (by decide) ?_
                  refine mw_iconst (v := 1) dX7_mark_118 (by decide) ?_
                  exact mw_iret dX7_mark_119 rfl (by decide) (by decide) (by rw [mMark, if_pos h4, ev, if_neg (Int32.not_lt.mpr h16), if_neg (fun g => g h35), if_neg (by grind), if_neg (by grind), ep]; first | (rw [if_pos h108]; exact ⟨rfl, rfl, rfl⟩) | (rw [if_neg h108]; exact ⟨rfl, rfl, rfl⟩) | fail "leaf")
                · skip
                  refine mw_iload_n dX7_mark_111 rfl ?_
                  refine mw_i2s dX7_mark_112 ?_
                  refine mw_goto (tgt := 117) dX7_mark_113 (by decide) ?_
                  refine mw_iastK (k := 24 * i + a) dX7_mark_117 (by assumption) (rfl) (by omega) (by decide) ?_
                  refine mw_iconst (v := 1) dX7_mark_118 (by decide) ?_
                  exact mw_iret dX7_mark_119 rfl (by decide) (by decide) (by rw [mMark, if_pos h4, ev, if_neg (Int32.not_lt.mpr h16), if_neg (fun g => g h35), if_neg (by grind), if_neg (by grind), ep]; first | (rw [if_pos h108]; exact ⟨rfl, rfl, rfl⟩) | (rw [if_neg h108]; exact ⟨rfl, rfl, rfl⟩) | fail "leaf")
              · skip
                refine mw_ldc dX7_mark_89 cn_X7_127 ?_
                exact mw_iret dX7_mark_91 rfl (by decide) (by decide) (by rw [mMark, if_pos h4, ev, if_neg (Int32.not_lt.mpr h16), if_neg (fun g => g h35), if_neg (by grind), if_pos ⟨h67, h73, h86⟩]; exact ⟨rfl, rfl, rfl⟩)
        · skip
          refine mw_iload_n dX7_mark_51 rfl ?_
          refine mw_ldc dX7_mark_52 cn_X7_172 ?_
          refine mw_icmp_ne (tgt := 60) dX7_mark_54 (by decide) (fun h54 => ?_) (fun h54 => ?_)
          · skip
            refine mw_aload_n dX7_mark_60 rfl ?_
            refine mw_getr dX7_mark_61 fl_X7_51 rfl (by assumption) (by assumption) ?_
            refine mw_iload_n dX7_mark_64 rfl ?_
            refine mw_ialdK (k := i) dX7_mark_65 (by assumption) (rfl) (by omega) (by decide) ?_
            refine mw_iconst (v := 1) dX7_mark_66 (by decide) ?_
            refine mw_icmp_ne (tgt := 92) dX7_mark_67 (by decide) (fun h67 => ?_) (fun h67 => ?_)
            · skip
              refine mw_aload_n dX7_mark_92 rfl ?_
              refine mw_getr dX7_mark_93 fl_X7_57 rfl (by assumption) (by assumption) ?_
              refine mw_bipush (v := 24) dX7_mark_96 (by decide) ?_
              refine mw_iload_n dX7_mark_98 rfl ?_
              refine mw_imul dX7_mark_99 ?_
              refine mw_iload_n dX7_mark_100 rfl ?_
              refine mw_iadd dX7_mark_101 ?_
              rw [ix24]
              refine mw_aload_n dX7_mark_102 rfl ?_
              refine mw_getr dX7_mark_103 fl_X7_51 rfl (by assumption) (by assumption) ?_
              refine mw_iload_n dX7_mark_106 rfl ?_
              refine mw_ialdK (k := i) dX7_mark_107 (by assumption) (rfl) (by omega) (by decide) ?_
              refine mw_if_ne (tgt := 116) dX7_mark_108 (by decide) (fun h108 => ?_) (fun h108 => ?_)
              · skip
                refine mw_iload_n dX7_mark_116 rfl ?_
                refine mw_iastK (k := 24 * i + a) dX7_mark_117 (by assumption) (rfl) (by omega) (by decide) ?_
                refine mw_iconst (v := 1) dX7_mark_118 (by decide) ?_
                exact mw_iret dX7_mark_119 rfl (by decide) (by decide) (by rw [mMark, if_pos h4, ev, if_neg (Int32.not_lt.mpr h16), if_neg (fun g => g h35), if_neg (by grind), if_neg (by grind), ep]; first | (rw [if_pos h108]; exact ⟨rfl, rfl, rfl⟩) | (rw [if_neg h108]; exact ⟨rfl, rfl, rfl⟩) | fail "leaf")
              · skip
                refine mw_iload_n dX7_mark_111 rfl ?_
                refine mw_i2s dX7_mark_112 ?_
                refine mw_goto (tgt := 117) dX7_mark_113 (by decide) ?_
                refine mw_iastK (k := 24 * i + a) dX7_mark_117 (by assumption) (rfl) (by omega) (by decide) ?_
                refine mw_iconst (v := 1) dX7_mark_118 (by decide) ?_
                exact mw_iret dX7_mark_119 rfl (by decide) (by decide) (by rw [mMark, if_pos h4, ev, if_neg (Int32.not_lt.mpr h16), if_neg (fun g => g h35), if_neg (by grind), if_neg (by grind), ep]; first | (rw [if_pos h108]; exact ⟨rfl, rfl, rfl⟩) | (rw [if_neg h108]; exact ⟨rfl, rfl, rfl⟩) | fail "leaf")
            · skip
              refine mw_iload_n dX7_mark_70 rfl ?_
              refine mw_ldc dX7_mark_71 cn_X7_172 ?_
              refine mw_icmp_eq (tgt := 92) dX7_mark_73 (by decide) (fun h73 => ?_) (fun h73 => ?_)
              · skip
                refine mw_aload_n dX7_mark_92 rfl ?_
                refine mw_getr dX7_mark_93 fl_X7_57 rfl (by assumption) (by assumption) ?_
                refine mw_bipush (v := 24) dX7_mark_96 (by decide) ?_
                refine mw_iload_n dX7_mark_98 rfl ?_
                refine mw_imul dX7_mark_99 ?_
                refine mw_iload_n dX7_mark_100 rfl ?_
                refine mw_iadd dX7_mark_101 ?_
                rw [ix24]
                refine mw_aload_n dX7_mark_102 rfl ?_
                refine mw_getr dX7_mark_103 fl_X7_51 rfl (by assumption) (by assumption) ?_
                refine mw_iload_n dX7_mark_106 rfl ?_
                refine mw_ialdK (k := i) dX7_mark_107 (by assumption) (rfl) (by omega) (by decide) ?_
                refine mw_if_ne (tgt := 116) dX7_mark_108 (by decide) (fun h108 => ?_) (fun h108 => ?_)
                · skip
                  refine mw_iload_n dX7_mark_116 rfl ?_
                  refine mw_iastK (k := 24 * i + a) dX7_mark_117 (by assumption) (rfl) (by omega) (by decide) ?_
                  refine mw_iconst (v := 1) dX7_mark_118 (by decide) ?_
                  exact mw_iret dX7_mark_119 rfl (by decide) (by decide) (by rw [mMark, if_pos h4, ev, if_neg (Int32.not_lt.mpr h16), if_neg (fun g => g h35), if_neg (by grind), if_neg (by grind), ep]; first | (rw [if_pos h108]; exact ⟨rfl, rfl, rfl⟩) | (rw [if_neg h108]; exact ⟨rfl, rfl, rfl⟩) | fail "leaf")
                · skip
                  refine mw_iload_n dX7_mark_111 rfl ?_
                  refine mw_i2s dX7_mark_112 ?_
                  refine mw_goto (tgt := 117) dX7_mark_113 (by decide) ?_
                  refine mw_iastK (k := 24 * i + a) dX7_mark_117 (by assumption) (rfl) (by omega) (by decide) ?_
                  refine mw_iconst (v := 1) dX7_mark_118 (by decide) ?_
                  exact mw_iret dX7_mark_119 rfl (by decide) (by decide) (by rw [mMark, if_pos h4, ev, if_neg (Int32.not_lt.mpr h16), if_neg (fun g => g h35), if_neg (by grind), if_neg (by grind), ep]; first | (rw [if_pos h108]; exact ⟨rfl, rfl, rfl⟩) | (rw [if_neg h108]; exact ⟨rfl, rfl, rfl⟩) | fail "leaf")
              · skip
                refine mw_iload_n dX7_mark_76 rfl ?_
                refine mw_ldcw dX7_mark_77 cn_X7_264 ?_
                refine mw_ldcw dX7_mark_80 cn_X7_265 ?_
                refine mw_cSI (g := fX7_in) dX7_mark_83 ml_X7_78 mfX7_in (ok_X7_in) rfl rfl (Nat.le_of_ble_eq_true rfl) ⟨by decide, by decide⟩ ⟨by decide, by decide⟩ ?_
                refine mw_if_neB (tgt := 92) dX7_mark_86 (by decide) (fun h86 => ?_) (fun h86 => ?_)
                · skip
                  refine mw_aload_n dX7_mark_92 rfl ?_
                  refine mw_getr dX7_mark_93 fl_X7_57 rfl (by assumption) (by assumption) ?_
                  refine mw_bipush (v := 24) dX7_mark_96 (by decide) ?_
                  refine mw_iload_n dX7_mark_98 rfl ?_
                  refine mw_imul dX7_mark_99 ?_
                  refine mw_iload_n dX7_mark_100 rfl ?_
                  refine mw_iadd dX7_mark_101 ?_
                  rw [ix24]
                  refine mw_aload_n dX7_mark_102 rfl ?_
                  refine mw_getr dX7_mark_103 fl_X7_51 rfl (by assumption) (by assumption) ?_
                  refine mw_iload_n dX7_mark_106 rfl ?_
                  refine mw_ialdK (k := i) dX7_mark_107 (by assumption) (rfl) (by omega) (by decide) ?_
                  refine mw_if_ne (tgt := 116) dX7_mark_108 (by decide) (fun h108 => ?_) (fun h108 => ?_)
                  · skip
                    refine mw_iload_n dX7_mark_116 rfl ?_
                    refine mw_iastK (k := 24 * i + a) dX7_mark_117 (by assumption) (rfl) (by omega) (by decide) ?_
                    refine mw_iconst (v := 1) dX7_mark_118 (by decide) ?_
                    exact mw_iret dX7_mark_119 rfl (by decide) (by decide) (by rw [mMark, if_pos h4, ev, if_neg (Int32.not_lt.mpr h16), if_neg (fun g => g h35), if_neg (by grind), if_neg (by grind), ep]; first | (rw [if_pos h108]; exact ⟨rfl, rfl, rfl⟩) | (rw [if_neg h108]; exact ⟨rfl, rfl, rfl⟩) | fail "leaf")
                  · skip
                    refine mw_iload_n dX7_mark_111 rfl ?_
                    refine mw_i2s dX7_mark_112 ?_
                    refine mw_goto (tgt := 117) dX7_mark_113 (by decide) ?_
                    refine mw_iastK (k := 24 * i + a) dX7_mark_117 (by assumption) (rfl) (by omega) (by decide) ?_
                    refine mw_iconst (v := 1) dX7_mark_118 (by decide) ?_
                    exact mw_iret dX7_mark_119 rfl (by decide) (by decide) (by rw [mMark, if_pos h4, ev, if_neg (Int32.not_lt.mpr h16), if_neg (fun g => g h35), if_neg (by grind), if_neg (by grind), ep]; first | (rw [if_pos h108]; exact ⟨rfl, rfl, rfl⟩) | (rw [if_neg h108]; exact ⟨rfl, rfl, rfl⟩) | fail "leaf")
                · skip
                  refine mw_ldc dX7_mark_89 cn_X7_127 ?_
                  exact mw_iret dX7_mark_91 rfl (by decide) (by decide) (by rw [mMark, if_pos h4, ev, if_neg (Int32.not_lt.mpr h16), if_neg (fun g => g h35), if_neg (by grind), if_pos ⟨h67, h73, h86⟩]; exact ⟨rfl, rfl, rfl⟩)
          · skip
            refine mw_ldc dX7_mark_57 cn_X7_141 ?_
            exact mw_iret dX7_mark_59 rfl (by decide) (by decide) (by rw [mMark, if_pos h4, ev, if_neg (Int32.not_lt.mpr h16), if_neg (fun g => g h35), if_pos ⟨h48, h54⟩]; exact ⟨rfl, rfl, rfl⟩)
      · skip
        refine mw_ldcw dX7_mark_38 cn_X7_263 ?_
        exact mw_iret dX7_mark_41 rfl (by decide) (by decide) (by rw [mMark, if_pos h4, ev, if_neg (Int32.not_lt.mpr h16), if_pos h35]; exact ⟨rfl, rfl, rfl⟩)
    · skip
      refine mw_ldc dX7_mark_19 cn_X7_190 ?_
      exact mw_iret dX7_mark_21 rfl (by decide) (by decide) (by rw [mMark, if_pos h4, ev, if_pos (Int32.not_le.mp h16)]; exact ⟨rfl, rfl, rfl⟩)
  · skip
    refine mw_ldc dX7_mark_7 cn_X7_127 ?_
    exact mw_iret dX7_mark_9 rfl (by decide) (by decide) (by rw [mMark, if_neg h4]; exact ⟨rfl, rfl, rfl⟩)
def cpC (f g : Nat → Int32) (d k : Nat) : Nat → Int32 := fun j => if d ≤ j ∧ j < d + k then g (j - d) else f j
theorem cpC_0 (f g : Nat → Int32) (d : Nat) : cpC f g d 0 = f := by funext j; simp only [cpC]; rw [if_neg (by omega)]
theorem cpC_s (f g : Nat → Int32) (d k : Nat) : upd (cpC f g d k) (d + k) (g k) = cpC f g d (k + 1) := by
  funext j
  simp only [upd, cpC]
  by_cases c : j = d + k
  · subst c; rw [if_pos rfl, if_pos (by omega), Nat.add_sub_cancel_left]
  · rw [if_neg c]
    by_cases c2 : d ≤ j ∧ j < d + k
    · rw [if_pos c2, if_pos (by omega)]
    · rw [if_neg c2, if_neg (by omega)]
def mCopyR (mi : Mem) (o : Nat) (f p t a n : Int32) : Int32 := if (0 ≤ f ∧ f ≤ 3) ∧ (0 ≤ t ∧ t ≤ 3) then (if mi (o + 14) f.toNatClampNeg < 0 ∨ mi (o + 14) t.toNatClampNeg < 0 then NOTHINGi else if ¬ mi (o + 14) f.toNatClampNeg = mi (o + 14) t.toNatClampNeg then KINDi else if (0 ≤ p ∧ 0 ≤ n ∧ p ≤ mi (o + 15) f.toNatClampNeg - n) ∧ (0 ≤ a ∧ 0 ≤ n ∧ a ≤ mi (o + 15) t.toNatClampNeg - n) then n else INDEXi) else BADi
def mCopyB (mi : Mem) (o : Nat) (f p t a n : Int32) : Prop := ((0 ≤ f ∧ f ≤ 3) ∧ (0 ≤ t ∧ t ≤ 3)) ∧ ¬ (mi (o + 14) f.toNatClampNeg < 0 ∨ mi (o + 14) t.toNatClampNeg < 0) ∧ mi (o + 14) f.toNatClampNeg = mi (o + 14) t.toNatClampNeg ∧ (0 ≤ p ∧ 0 ≤ n ∧ p ≤ mi (o + 15) f.toNatClampNeg - n) ∧ (0 ≤ a ∧ 0 ≤ n ∧ a ≤ mi (o + 15) t.toNatClampNeg - n)
theorem dX7_copy_0 : decode fX7_copy.2.1 0 = .ok (.iload_n 1, 1) := by decide +kernel
theorem dX7_copy_1 : decode fX7_copy.2.1 1 = .ok (.invokestatic 187, 3) := by decide +kernel
theorem dX7_copy_4 : decode fX7_copy.2.1 4 = .ok (.ifCond .eq 10, 3) := by decide +kernel
theorem dX7_copy_7 : decode fX7_copy.2.1 7 = .ok (.iload_n 3, 1) := by decide +kernel
theorem dX7_copy_8 : decode fX7_copy.2.1 8 = .ok (.invokestatic 187, 3) := by decide +kernel
theorem dX7_copy_11 : decode fX7_copy.2.1 11 = .ok (.ifCond .ne 6, 3) := by decide +kernel
theorem dX7_copy_14 : decode fX7_copy.2.1 14 = .ok (.ldc 127, 2) := by decide +kernel
theorem dX7_copy_16 : decode fX7_copy.2.1 16 = .ok (.ireturn, 1) := by decide +kernel
theorem dX7_copy_17 : decode fX7_copy.2.1 17 = .ok (.aload_n 0, 1) := by decide +kernel
theorem dX7_copy_18 : decode fX7_copy.2.1 18 = .ok (.getfield 51, 3) := by decide +kernel
theorem dX7_copy_21 : decode fX7_copy.2.1 21 = .ok (.iload_n 1, 1) := by decide +kernel
theorem dX7_copy_22 : decode fX7_copy.2.1 22 = .ok (.iaload, 1) := by decide +kernel
theorem dX7_copy_23 : decode fX7_copy.2.1 23 = .ok (.ifCond .lt 12, 3) := by decide +kernel
theorem dX7_copy_26 : decode fX7_copy.2.1 26 = .ok (.aload_n 0, 1) := by decide +kernel
theorem dX7_copy_27 : decode fX7_copy.2.1 27 = .ok (.getfield 51, 3) := by decide +kernel
theorem dX7_copy_30 : decode fX7_copy.2.1 30 = .ok (.iload_n 3, 1) := by decide +kernel
theorem dX7_copy_31 : decode fX7_copy.2.1 31 = .ok (.iaload, 1) := by decide +kernel
theorem dX7_copy_32 : decode fX7_copy.2.1 32 = .ok (.ifCond .ge 6, 3) := by decide +kernel
theorem dX7_copy_35 : decode fX7_copy.2.1 35 = .ok (.ldc 190, 2) := by decide +kernel
theorem dX7_copy_37 : decode fX7_copy.2.1 37 = .ok (.ireturn, 1) := by decide +kernel
theorem dX7_copy_38 : decode fX7_copy.2.1 38 = .ok (.aload_n 0, 1) := by decide +kernel
theorem dX7_copy_39 : decode fX7_copy.2.1 39 = .ok (.getfield 51, 3) := by decide +kernel
theorem dX7_copy_42 : decode fX7_copy.2.1 42 = .ok (.iload_n 1, 1) := by decide +kernel
theorem dX7_copy_43 : decode fX7_copy.2.1 43 = .ok (.iaload, 1) := by decide +kernel
theorem dX7_copy_44 : decode fX7_copy.2.1 44 = .ok (.aload_n 0, 1) := by decide +kernel
theorem dX7_copy_45 : decode fX7_copy.2.1 45 = .ok (.getfield 51, 3) := by decide +kernel
theorem dX7_copy_48 : decode fX7_copy.2.1 48 = .ok (.iload_n 3, 1) := by decide +kernel
theorem dX7_copy_49 : decode fX7_copy.2.1 49 = .ok (.iaload, 1) := by decide +kernel
theorem dX7_copy_50 : decode fX7_copy.2.1 50 = .ok (.if_icmp .eq 6, 3) := by decide +kernel
theorem dX7_copy_53 : decode fX7_copy.2.1 53 = .ok (.ldc 141, 2) := by decide +kernel
theorem dX7_copy_55 : decode fX7_copy.2.1 55 = .ok (.ireturn, 1) := by decide +kernel
theorem dX7_copy_56 : decode fX7_copy.2.1 56 = .ok (.iload_n 2, 1) := by decide +kernel
theorem dX7_copy_57 : decode fX7_copy.2.1 57 = .ok (.ifCond .lt 40, 3) := by decide +kernel
theorem dX7_copy_60 : decode fX7_copy.2.1 60 = .ok (.iload 4, 2) := by decide +kernel
theorem dX7_copy_62 : decode fX7_copy.2.1 62 = .ok (.ifCond .lt 35, 3) := by decide +kernel
theorem dX7_copy_65 : decode fX7_copy.2.1 65 = .ok (.iload 5, 2) := by decide +kernel
theorem dX7_copy_67 : decode fX7_copy.2.1 67 = .ok (.ifCond .lt 30, 3) := by decide +kernel
theorem dX7_copy_70 : decode fX7_copy.2.1 70 = .ok (.iload_n 2, 1) := by decide +kernel
theorem dX7_copy_71 : decode fX7_copy.2.1 71 = .ok (.aload_n 0, 1) := by decide +kernel
theorem dX7_copy_72 : decode fX7_copy.2.1 72 = .ok (.getfield 54, 3) := by decide +kernel
theorem dX7_copy_75 : decode fX7_copy.2.1 75 = .ok (.iload_n 1, 1) := by decide +kernel
theorem dX7_copy_76 : decode fX7_copy.2.1 76 = .ok (.iaload, 1) := by decide +kernel
theorem dX7_copy_77 : decode fX7_copy.2.1 77 = .ok (.iload 5, 2) := by decide +kernel
theorem dX7_copy_79 : decode fX7_copy.2.1 79 = .ok (.isub, 1) := by decide +kernel
theorem dX7_copy_80 : decode fX7_copy.2.1 80 = .ok (.if_icmp .gt 17, 3) := by decide +kernel
theorem dX7_copy_83 : decode fX7_copy.2.1 83 = .ok (.iload 4, 2) := by decide +kernel
theorem dX7_copy_85 : decode fX7_copy.2.1 85 = .ok (.aload_n 0, 1) := by decide +kernel
theorem dX7_copy_86 : decode fX7_copy.2.1 86 = .ok (.getfield 54, 3) := by decide +kernel
theorem dX7_copy_89 : decode fX7_copy.2.1 89 = .ok (.iload_n 3, 1) := by decide +kernel
theorem dX7_copy_90 : decode fX7_copy.2.1 90 = .ok (.iaload, 1) := by decide +kernel
theorem dX7_copy_91 : decode fX7_copy.2.1 91 = .ok (.iload 5, 2) := by decide +kernel
theorem dX7_copy_93 : decode fX7_copy.2.1 93 = .ok (.isub, 1) := by decide +kernel
theorem dX7_copy_94 : decode fX7_copy.2.1 94 = .ok (.if_icmp .le 7, 3) := by decide +kernel
theorem dX7_copy_97 : decode fX7_copy.2.1 97 = .ok (.ldc_w 263, 3) := by decide +kernel
theorem dX7_copy_100 : decode fX7_copy.2.1 100 = .ok (.ireturn, 1) := by decide +kernel
theorem dX7_copy_101 : decode fX7_copy.2.1 101 = .ok (.iconst 0, 1) := by decide +kernel
theorem dX7_copy_102 : decode fX7_copy.2.1 102 = .ok (.istore 6, 2) := by decide +kernel
theorem dX7_copy_104 : decode fX7_copy.2.1 104 = .ok (.iload 6, 2) := by decide +kernel
theorem dX7_copy_106 : decode fX7_copy.2.1 106 = .ok (.iload 5, 2) := by decide +kernel
theorem dX7_copy_108 : decode fX7_copy.2.1 108 = .ok (.if_icmp .ge 30, 3) := by decide +kernel
theorem dX7_copy_111 : decode fX7_copy.2.1 111 = .ok (.aload_n 0, 1) := by decide +kernel
theorem dX7_copy_112 : decode fX7_copy.2.1 112 = .ok (.getfield 72, 3) := by decide +kernel
theorem dX7_copy_115 : decode fX7_copy.2.1 115 = .ok (.iload 6, 2) := by decide +kernel
theorem dX7_copy_117 : decode fX7_copy.2.1 117 = .ok (.aload_n 0, 1) := by decide +kernel
theorem dX7_copy_118 : decode fX7_copy.2.1 118 = .ok (.getfield 57, 3) := by decide +kernel
theorem dX7_copy_121 : decode fX7_copy.2.1 121 = .ok (.bipush 24, 2) := by decide +kernel
theorem dX7_copy_123 : decode fX7_copy.2.1 123 = .ok (.iload_n 1, 1) := by decide +kernel
theorem dX7_copy_124 : decode fX7_copy.2.1 124 = .ok (.imul, 1) := by decide +kernel
theorem dX7_copy_125 : decode fX7_copy.2.1 125 = .ok (.iload_n 2, 1) := by decide +kernel
theorem dX7_copy_126 : decode fX7_copy.2.1 126 = .ok (.iadd, 1) := by decide +kernel
theorem dX7_copy_127 : decode fX7_copy.2.1 127 = .ok (.iload 6, 2) := by decide +kernel
theorem dX7_copy_129 : decode fX7_copy.2.1 129 = .ok (.iadd, 1) := by decide +kernel
theorem dX7_copy_130 : decode fX7_copy.2.1 130 = .ok (.iaload, 1) := by decide +kernel
theorem dX7_copy_131 : decode fX7_copy.2.1 131 = .ok (.iastore, 1) := by decide +kernel
theorem dX7_copy_132 : decode fX7_copy.2.1 132 = .ok (.iinc 6 1, 3) := by decide +kernel
theorem dX7_copy_135 : decode fX7_copy.2.1 135 = .ok (.goto (-31), 3) := by decide +kernel
theorem dX7_copy_138 : decode fX7_copy.2.1 138 = .ok (.iconst 0, 1) := by decide +kernel
theorem dX7_copy_139 : decode fX7_copy.2.1 139 = .ok (.istore 6, 2) := by decide +kernel
theorem dX7_copy_141 : decode fX7_copy.2.1 141 = .ok (.iload 6, 2) := by decide +kernel
theorem dX7_copy_143 : decode fX7_copy.2.1 143 = .ok (.iload 5, 2) := by decide +kernel
theorem dX7_copy_145 : decode fX7_copy.2.1 145 = .ok (.if_icmp .ge 31, 3) := by decide +kernel
theorem dX7_copy_148 : decode fX7_copy.2.1 148 = .ok (.aload_n 0, 1) := by decide +kernel
theorem dX7_copy_149 : decode fX7_copy.2.1 149 = .ok (.getfield 57, 3) := by decide +kernel
theorem dX7_copy_152 : decode fX7_copy.2.1 152 = .ok (.bipush 24, 2) := by decide +kernel
theorem dX7_copy_154 : decode fX7_copy.2.1 154 = .ok (.iload_n 3, 1) := by decide +kernel
theorem dX7_copy_155 : decode fX7_copy.2.1 155 = .ok (.imul, 1) := by decide +kernel
theorem dX7_copy_156 : decode fX7_copy.2.1 156 = .ok (.iload 4, 2) := by decide +kernel
theorem dX7_copy_158 : decode fX7_copy.2.1 158 = .ok (.iadd, 1) := by decide +kernel
theorem dX7_copy_159 : decode fX7_copy.2.1 159 = .ok (.iload 6, 2) := by decide +kernel
theorem dX7_copy_161 : decode fX7_copy.2.1 161 = .ok (.iadd, 1) := by decide +kernel
theorem dX7_copy_162 : decode fX7_copy.2.1 162 = .ok (.aload_n 0, 1) := by decide +kernel
theorem dX7_copy_163 : decode fX7_copy.2.1 163 = .ok (.getfield 72, 3) := by decide +kernel
theorem dX7_copy_166 : decode fX7_copy.2.1 166 = .ok (.iload 6, 2) := by decide +kernel
theorem dX7_copy_168 : decode fX7_copy.2.1 168 = .ok (.iaload, 1) := by decide +kernel
theorem dX7_copy_169 : decode fX7_copy.2.1 169 = .ok (.iastore, 1) := by decide +kernel
theorem dX7_copy_170 : decode fX7_copy.2.1 170 = .ok (.iinc 6 1, 3) := by decide +kernel
theorem dX7_copy_173 : decode fX7_copy.2.1 173 = .ok (.goto (-32), 3) := by decide +kernel
theorem dX7_copy_176 : decode fX7_copy.2.1 176 = .ok (.iload 5, 2) := by decide +kernel
theorem dX7_copy_178 : decode fX7_copy.2.1 178 = .ok (.ireturn, 1) := by decide +kernel
set_option maxRecDepth 100000 in
set_option maxHeartbeats 4000000 in
theorem ok_X7_copy {X : Xb} {S : Sg} {mi : Mem} {o : Nat} {f p t a n : Int32} (hM : MdA S o) (hZ : MsZ mi o) : Ok 2 0 0 fX7_copy X [rf X o, .int f, .int p, .int t, .int a, .int n] S mi (fun r S' m => r = some (.int (mCopyR mi o f p t a n)) ∧ S' = S ∧ ((¬ mCopyB mi o f p t a n ∧ m = mi) ∨ (mCopyB mi o f p t a n ∧ m (o + 16) = cpC (mi (o + 16)) (fun k => mi (o + 16) (24 * f.toNatClampNeg + p.toNatClampNeg + k)) (24 * t.toNatClampNeg + a.toNatClampNeg) n.toNatClampNeg ∧ ∀ i, i ≠ o + 16 → i ≠ o + 21 → m i = mi i))) := by
  refine Ok.go [some (rf X o), some (.int f), some (.int p), some (.int t), some (.int a), some (.int n), none] (by decide) (by simp [Value.category]) (Nat.le_of_ble_eq_true rfl) rfl ?_
  obtain ⟨k_o, ⟨r_o_now, k_o_now⟩, ⟨r_o_image, k_o_image⟩, ⟨r_o_aside, k_o_aside⟩, ⟨r_o_seen, k_o_seen⟩, ⟨r_o_unlike, k_o_unlike⟩, ⟨r_o_tape, k_o_tape⟩, ⟨r_o_keys, k_o_keys⟩, ⟨r_o_keyAt, k_o_keyAt⟩, ⟨r_o_code, k_o_code⟩, ⟨r_o_waits, k_o_waits⟩, ⟨r_o_tested, k_o_tested⟩, ⟨r_o_stack, k_o_stack⟩, ⟨r_o_facts, k_o_facts⟩, ⟨r_o_sorts, k_o_sorts⟩, ⟨r_o_sizes, k_o_sizes⟩, ⟨r_o_cells, k_o_cells⟩, ⟨r_o_holds, k_o_holds⟩, ⟨r_o_holdsA, k_o_holdsA⟩, ⟨r_o_holdsB, k_o_holdsB⟩, ⟨r_o_heldCells, k_o_heldCells⟩, ⟨r_o_moved, k_o_moved⟩, ⟨r_o_tells, k_o_tells⟩⟩ := id hM
  have go : ∀ i j b c d, i < 4 → j < 4 → b + d ≤ 24 → c + d ≤ 24 → f = nI i → p = nI b → t = nI j → a = nI c → n = nI d → mCopyB mi o f p t a n → mCopyR mi o f p t a n = n → MW X fX7_copy (rmOf 2 0 0) 0 0 104 [some (rf X o), some (.int (nI i)), some (.int (nI b)), some (.int (nI j)), some (.int (nI c)), some (.int (nI d)), some (.int (nI 0))] [] S mi (mQ X 0 0 (fun r S' m => r = some (.int (mCopyR mi o f p t a n)) ∧ S' = S ∧ ((¬ mCopyB mi o f p t a n ∧ m = mi) ∨ (mCopyB mi o f p t a n ∧ m (o + 16) = cpC (mi (o + 16)) (fun k => mi (o + 16) (24 * f.toNatClampNeg + p.toNatClampNeg + k)) (24 * t.toNatClampNeg + a.toNatClampNeg) n.toNatClampNeg ∧ ∀ i, i ≠ o + 16 → i ≠ o + 21 → m i = mi i)))) := by
    intro i j b c d hi hj hb hc e1 e2 e3 e4 e5 hB hR
    have c1 : f.toNatClampNeg = i := by rw [e1, nI_clamp (by omega)]
    have c2 : p.toNatClampNeg = b := by rw [e2, nI_clamp (by omega)]
    have c3 : t.toNatClampNeg = j := by rw [e3, nI_clamp (by omega)]
    have c4 : a.toNatClampNeg = c := by rw [e4, nI_clamp (by omega)]
    have c5 : n.toNatClampNeg = d := by rw [e5, nI_clamp (by omega)]
    have s141 : ∀ m0, (∀ k, k < d → m0 (o + 21) k = mi (o + 16) (24 * i + b + k)) → m0 (o + 16) = mi (o + 16) → (∀ q, q ≠ o + 16 → q ≠ o + 21 → m0 q = mi q) → MW X fX7_copy (rmOf 2 0 0) 0 0 141 [some (rf X o), some (.int (nI i)), some (.int (nI b)), some (.int (nI j)), some (.int (nI c)), some (.int (nI d)), some (.int (nI 0))] [] S m0 (mQ X 0 0 (fun r S' m => r = some (.int (mCopyR mi o f p t a n)) ∧ S' = S ∧ ((¬ mCopyB mi o f p t a n ∧ m = mi) ∨ (mCopyB mi o f p t a n ∧ m (o + 16) = cpC (mi (o + 16)) (fun k => mi (o + 16) (24 * f.toNatClampNeg + p.toNatClampNeg + k)) (24 * t.toNatClampNeg + a.toNatClampNeg) n.toNatClampNeg ∧ ∀ i, i ≠ o + 16 → i ≠ o + 21 → m i = mi i)))) := by
      intro m0 g1 g2 g3
      have lp := mw_dn (P := fun k => ∀ m, m (o + 21) = m0 (o + 21) → m (o + 16) = cpC (mi (o + 16)) (fun k => mi (o + 16) (24 * i + b + k)) (24 * j + c) k → (∀ q, q ≠ o + 16 → q ≠ o + 21 → m q = mi q) → MW X fX7_copy (rmOf 2 0 0) 0 0 141 [some (rf X o), some (.int (nI i)), some (.int (nI b)), some (.int (nI j)), some (.int (nI c)), some (.int (nI d)), some (.int (nI k))] [] S m (mQ X 0 0 (fun r S' m => r = some (.int (mCopyR mi o f p t a n)) ∧ S' = S ∧ ((¬ mCopyB mi o f p t a n ∧ m = mi) ∨ (mCopyB mi o f p t a n ∧ m (o + 16) = cpC (mi (o + 16)) (fun k => mi (o + 16) (24 * f.toNatClampNeg + p.toNatClampNeg + k)) (24 * t.toNatClampNeg + a.toNatClampNeg) n.toNatClampNeg ∧ ∀ i, i ≠ o + 16 → i ≠ o + 21 → m i = mi i))))) d (by
        intro m k1 k2 k3
        refine mw_iload dX7_copy_141 rfl ?_
        refine mw_iload dX7_copy_143 rfl ?_
        refine mw_icmp_ge (tgt := 176) dX7_copy_145 (by decide) (fun h145 => ?_) (fun h145 => ?_)
        · skip
          refine mw_iload dX7_copy_176 rfl ?_
          exact mw_iret dX7_copy_178 rfl (by decide) (by decide) (⟨by rw [hR, e5], rfl, Or.inr ⟨hB, by rw [c1, c2, c3, c4, c5]; exact k2, k3⟩⟩)
        · skip
          exact absurd (Int32.le_refl _) h145) (fun k hk ih => by
        intro m k1 k2 k3
        have ex : (24 : Int32) * nI j + nI c + nI k = nI (24 * j + c + k) := by rw [ix24, nI_add]
        have em : m (o + 21) k = mi (o + 16) (24 * i + b + k) := by rw [k1]; exact g1 k hk
        refine mw_iload dX7_copy_141 rfl ?_
        refine mw_iload dX7_copy_143 rfl ?_
        refine mw_icmp_ge (tgt := 176) dX7_copy_145 (by decide) (fun h145 => ?_) (fun h145 => ?_)
        · skip
          exact absurd h145 (nI_ge hk (by omega))
        · skip
          refine mw_aload_n dX7_copy_148 rfl ?_
          refine mw_getr dX7_copy_149 fl_X7_57 rfl (by assumption) (by assumption) ?_
          refine mw_bipush (v := 24) dX7_copy_152 (by decide) ?_
          refine mw_iload_n dX7_copy_154 rfl ?_
          refine mw_imul dX7_copy_155 ?_
          refine mw_iload dX7_copy_156 rfl ?_
          refine mw_iadd dX7_copy_158 ?_
          refine mw_iload dX7_copy_159 rfl ?_
          refine mw_iadd dX7_copy_161 ?_
          rw [ex]
          refine mw_aload_n dX7_copy_162 rfl ?_
          refine mw_getr dX7_copy_163 fl_X7_72 rfl (by assumption) (by assumption) ?_
          refine mw_iload dX7_copy_166 rfl ?_
          refine mw_ialdK (k := k) dX7_copy_168 (by assumption) (rfl) (by omega) (by decide) ?_
          rw [em]
          refine mw_iastK (k := 24 * j + c + k) dX7_copy_169 (by assumption) (rfl) (by omega) (by decide) ?_
          refine mw_iincK (k := k) dX7_copy_170 rfl rfl (by decide) ?_
          refine mw_goto (tgt := 141) dX7_copy_173 (by decide) ?_
          refine MW.sub (by simp [lsub]) (ih _ (by rw [m_up_ne (by omega)]; exact k1) ?_ (fun q h1 h2 => by rw [m_up_ne h1]; exact k3 q h1 h2))
          rw [m_up_row, k2, ← cpC_s])
      exact lp m0 rfl (by rw [g2, cpC_0]) g3
    have lp := mw_dn (P := fun k => ∀ m, (∀ l, l < k → m (o + 21) l = mi (o + 16) (24 * i + b + l)) → m (o + 16) = mi (o + 16) → (∀ q, q ≠ o + 16 → q ≠ o + 21 → m q = mi q) → MW X fX7_copy (rmOf 2 0 0) 0 0 104 [some (rf X o), some (.int (nI i)), some (.int (nI b)), some (.int (nI j)), some (.int (nI c)), some (.int (nI d)), some (.int (nI k))] [] S m (mQ X 0 0 (fun r S' m => r = some (.int (mCopyR mi o f p t a n)) ∧ S' = S ∧ ((¬ mCopyB mi o f p t a n ∧ m = mi) ∨ (mCopyB mi o f p t a n ∧ m (o + 16) = cpC (mi (o + 16)) (fun k => mi (o + 16) (24 * f.toNatClampNeg + p.toNatClampNeg + k)) (24 * t.toNatClampNeg + a.toNatClampNeg) n.toNatClampNeg ∧ ∀ i, i ≠ o + 16 → i ≠ o + 21 → m i = mi i))))) d (by
      intro m k1 k2 k3
      refine mw_iload dX7_copy_104 rfl ?_
      refine mw_iload dX7_copy_106 rfl ?_
      refine mw_icmp_ge (tgt := 138) dX7_copy_108 (by decide) (fun h108 => ?_) (fun h108 => ?_)
      · skip
        refine mw_iconst (v := 0) dX7_copy_138 (by decide) ?_
        refine mw_istore dX7_copy_139 (by decide) ?_
        exact MW.sub (by simp [lsub, nI_0]) (s141 m k1 k2 k3)
      · skip
        exact absurd (Int32.le_refl _) h108) (fun k hk ih => by
      intro m k1 k2 k3
      have ex : (24 : Int32) * nI i + nI b + nI k = nI (24 * i + b + k) := by rw [ix24, nI_add]
      refine mw_iload dX7_copy_104 rfl ?_
      refine mw_iload dX7_copy_106 rfl ?_
      refine mw_icmp_ge (tgt := 138) dX7_copy_108 (by decide) (fun h108 => ?_) (fun h108 => ?_)
      · skip
        exact absurd h108 (nI_ge hk (by omega))
      · skip
        refine mw_aload_n dX7_copy_111 rfl ?_
        refine mw_getr dX7_copy_112 fl_X7_72 rfl (by assumption) (by assumption) ?_
        refine mw_iload dX7_copy_115 rfl ?_
        refine mw_aload_n dX7_copy_117 rfl ?_
        refine mw_getr dX7_copy_118 fl_X7_57 rfl (by assumption) (by assumption) ?_
        refine mw_bipush (v := 24) dX7_copy_121 (by decide) ?_
        refine mw_iload_n dX7_copy_123 rfl ?_
        refine mw_imul dX7_copy_124 ?_
        refine mw_iload_n dX7_copy_125 rfl ?_
        refine mw_iadd dX7_copy_126 ?_
        refine mw_iload dX7_copy_127 rfl ?_
        refine mw_iadd dX7_copy_129 ?_
        rw [ex]
        refine mw_ialdK (k := 24 * i + b + k) dX7_copy_130 (by assumption) (rfl) (by omega) (by decide) ?_
        rw [k2]
        refine mw_iastK (k := k) dX7_copy_131 (by assumption) (rfl) (by omega) (by decide) ?_
        refine mw_iincK (k := k) dX7_copy_132 rfl rfl (by decide) ?_
        refine mw_goto (tgt := 104) dX7_copy_135 (by decide) ?_
        refine MW.sub (by simp [lsub]) (ih _ (fun l hl => ?_) (by rw [m_up_ne (by omega)]; exact k2) (fun q h1 h2 => by rw [m_up_ne h2]; exact k3 q h1 h2))
        by_cases cc : l = k
        · subst cc; rw [m_up_at]
        · rw [m_up_of cc]; exact k1 l (by omega))
    exact lp mi (fun l hl => absurd hl (Nat.not_lt_zero l)) rfl (fun _ _ _ => rfl)
  refine mw_iload_n dX7_copy_0 rfl ?_
  refine mw_cSI (g := fX7_isSheet) dX7_copy_1 ml_X7_187 mfX7_isSheet (ok_X7_isSheet) rfl rfl (Nat.le_of_ble_eq_true rfl) ⟨by decide, by decide⟩ ⟨by decide, by decide⟩ ?_
  refine mw_if_eqB (tgt := 14) dX7_copy_4 (by decide) (fun h4 => ?_) (fun h4 => ?_)
  · skip
    refine mw_ldc dX7_copy_14 cn_X7_127 ?_
    exact mw_iret dX7_copy_16 rfl (by decide) (by decide) (⟨by rw [mCopyR, if_neg (by grind)], rfl, Or.inl ⟨fun g => by have q := g.1; grind, rfl⟩⟩)
  · skip
    refine mw_iload_n dX7_copy_7 rfl ?_
    refine mw_cSI (g := fX7_isSheet) dX7_copy_8 ml_X7_187 mfX7_isSheet (ok_X7_isSheet) rfl rfl (Nat.le_of_ble_eq_true rfl) ⟨by decide, by decide⟩ ⟨by decide, by decide⟩ ?_
    refine mw_if_neB (tgt := 17) dX7_copy_11 (by decide) (fun h11 => ?_) (fun h11 => ?_)
    · skip
      obtain ⟨i, hi, e1⟩ := inB 3 (by decide) h4
      obtain ⟨j, hj, e3⟩ := inB 3 (by decide) h11
      have c1 : f.toNatClampNeg = i := by rw [e1, nI_clamp (by omega)]
      have c3 : t.toNatClampNeg = j := by rw [e3, nI_clamp (by omega)]
      obtain ⟨z, z24, hz⟩ := hZ i (by omega)
      obtain ⟨y, y24, hy⟩ := hZ j (by omega)
      refine mw_aload_n dX7_copy_17 rfl ?_
      refine mw_getr dX7_copy_18 fl_X7_51 rfl (by assumption) (by assumption) ?_
      refine mw_iload_n dX7_copy_21 rfl ?_
      refine mw_ialdK (k := i) dX7_copy_22 (by assumption) (e1) (by omega) (by decide) ?_
      refine mw_if_lt (tgt := 35) dX7_copy_23 (by decide) (fun h23 => ?_) (fun h23 => ?_)
      · skip
        refine mw_ldc dX7_copy_35 cn_X7_190 ?_
        exact mw_iret dX7_copy_37 rfl (by decide) (by decide) (by have g : mi (o + 14) i < 0 ∨ mi (o + 14) j < 0 := (by first | exact Or.inl h23 | exact Or.inr (Int32.not_le.mp h32)); exact ⟨by rw [mCopyR, if_pos ⟨h4, h11⟩, c1, c3, if_pos g], rfl, Or.inl ⟨fun q => q.2.1 (by rw [c1, c3]; exact g), rfl⟩⟩)
      · skip
        refine mw_aload_n dX7_copy_26 rfl ?_
        refine mw_getr dX7_copy_27 fl_X7_51 rfl (by assumption) (by assumption) ?_
        refine mw_iload_n dX7_copy_30 rfl ?_
        refine mw_ialdK (k := j) dX7_copy_31 (by assumption) (e3) (by omega) (by decide) ?_
        refine mw_if_ge (tgt := 38) dX7_copy_32 (by decide) (fun h32 => ?_) (fun h32 => ?_)
        · skip
          have g0 : ¬ (mi (o + 14) i < 0 ∨ mi (o + 14) j < 0) := fun q => q.elim h23 (fun q => absurd h32 (Int32.not_le.mpr q))
          refine mw_aload_n dX7_copy_38 rfl ?_
          refine mw_getr dX7_copy_39 fl_X7_51 rfl (by assumption) (by assumption) ?_
          refine mw_iload_n dX7_copy_42 rfl ?_
          refine mw_ialdK (k := i) dX7_copy_43 (by assumption) (e1) (by omega) (by decide) ?_
          refine mw_aload_n dX7_copy_44 rfl ?_
          refine mw_getr dX7_copy_45 fl_X7_51 rfl (by assumption) (by assumption) ?_
          refine mw_iload_n dX7_copy_48 rfl ?_
          refine mw_ialdK (k := j) dX7_copy_49 (by assumption) (e3) (by omega) (by decide) ?_
          refine mw_icmp_eq (tgt := 56) dX7_copy_50 (by decide) (fun h50 => ?_) (fun h50 => ?_)
          · skip
            refine mw_iload_n dX7_copy_56 rfl ?_
            refine mw_if_lt (tgt := 97) dX7_copy_57 (by decide) (fun h57 => ?_) (fun h57 => ?_)
            · skip
              have g1 : ¬ ((0 ≤ p ∧ 0 ≤ n ∧ p ≤ mi (o + 15) i - n) ∧ (0 ≤ a ∧ 0 ≤ n ∧ a ≤ mi (o + 15) j - n)) := (by first | exact fun q => absurd q.1.1 (Int32.not_le.mpr h57) | exact fun q => absurd q.2.1 (Int32.not_le.mpr h62) | exact fun q => absurd q.1.2.1 (Int32.not_le.mpr h67) | exact fun q => absurd q.1.2.2 (Int32.not_le.mpr h80) | exact fun q => h94 q.2.2.2)
              refine mw_ldcw dX7_copy_97 cn_X7_263 ?_
              exact mw_iret dX7_copy_100 rfl (by decide) (by decide) (⟨by rw [mCopyR, if_pos ⟨h4, h11⟩, c1, c3, if_neg g0, if_neg (fun q => q h50), if_neg g1], rfl, Or.inl ⟨fun q => g1 (by have := q.2.2.2; rw [c1, c3] at this; exact this), rfl⟩⟩)
            · skip
              refine mw_iload dX7_copy_60 rfl ?_
              refine mw_if_lt (tgt := 97) dX7_copy_62 (by decide) (fun h62 => ?_) (fun h62 => ?_)
              · skip
                have g1 : ¬ ((0 ≤ p ∧ 0 ≤ n ∧ p ≤ mi (o + 15) i - n) ∧ (0 ≤ a ∧ 0 ≤ n ∧ a ≤ mi (o + 15) j - n)) := (by first | exact fun q => absurd q.1.1 (Int32.not_le.mpr h57) | exact fun q => absurd q.2.1 (Int32.not_le.mpr h62) | exact fun q => absurd q.1.2.1 (Int32.not_le.mpr h67) | exact fun q => absurd q.1.2.2 (Int32.not_le.mpr h80) | exact fun q => h94 q.2.2.2)
                refine mw_ldcw dX7_copy_97 cn_X7_263 ?_
                exact mw_iret dX7_copy_100 rfl (by decide) (by decide) (⟨by rw [mCopyR, if_pos ⟨h4, h11⟩, c1, c3, if_neg g0, if_neg (fun q => q h50), if_neg g1], rfl, Or.inl ⟨fun q => g1 (by have := q.2.2.2; rw [c1, c3] at this; exact this), rfl⟩⟩)
              · skip
                refine mw_iload dX7_copy_65 rfl ?_
                refine mw_if_lt (tgt := 97) dX7_copy_67 (by decide) (fun h67 => ?_) (fun h67 => ?_)
                · skip
                  have g1 : ¬ ((0 ≤ p ∧ 0 ≤ n ∧ p ≤ mi (o + 15) i - n) ∧ (0 ≤ a ∧ 0 ≤ n ∧ a ≤ mi (o + 15) j - n)) := (by first | exact fun q => absurd q.1.1 (Int32.not_le.mpr h57) | exact fun q => absurd q.2.1 (Int32.not_le.mpr h62) | exact fun q => absurd q.1.2.1 (Int32.not_le.mpr h67) | exact fun q => absurd q.1.2.2 (Int32.not_le.mpr h80) | exact fun q => h94 q.2.2.2)
                  refine mw_ldcw dX7_copy_97 cn_X7_263 ?_
                  exact mw_iret dX7_copy_100 rfl (by decide) (by decide) (⟨by rw [mCopyR, if_pos ⟨h4, h11⟩, c1, c3, if_neg g0, if_neg (fun q => q h50), if_neg g1], rfl, Or.inl ⟨fun q => g1 (by have := q.2.2.2; rw [c1, c3] at this; exact this), rfl⟩⟩)
                · skip
                  refine mw_iload_n dX7_copy_70 rfl ?_
                  refine mw_aload_n dX7_copy_71 rfl ?_
                  refine mw_getr dX7_copy_72 fl_X7_54 rfl (by assumption) (by assumption) ?_
                  refine mw_iload_n dX7_copy_75 rfl ?_
                  refine mw_ialdK (k := i) dX7_copy_76 (by assumption) (e1) (by omega) (by decide) ?_
                  refine mw_iload dX7_copy_77 rfl ?_
                  refine mw_isub dX7_copy_79 ?_
                  refine mw_icmp_gt (tgt := 97) dX7_copy_80 (by decide) (fun h80 => ?_) (fun h80 => ?_)
                  · skip
                    have g1 : ¬ ((0 ≤ p ∧ 0 ≤ n ∧ p ≤ mi (o + 15) i - n) ∧ (0 ≤ a ∧ 0 ≤ n ∧ a ≤ mi (o + 15) j - n)) := (by first | exact fun q => absurd q.1.1 (Int32.not_le.mpr h57) | exact fun q => absurd q.2.1 (Int32.not_le.mpr h62) | exact fun q => absurd q.1.2.1 (Int32.not_le.mpr h67) | exact fun q => absurd q.1.2.2 (Int32.not_le.mpr h80) | exact fun q => h94 q.2.2.2)
                    refine mw_ldcw dX7_copy_97 cn_X7_263 ?_
                    exact mw_iret dX7_copy_100 rfl (by decide) (by decide) (⟨by rw [mCopyR, if_pos ⟨h4, h11⟩, c1, c3, if_neg g0, if_neg (fun q => q h50), if_neg g1], rfl, Or.inl ⟨fun q => g1 (by have := q.2.2.2; rw [c1, c3] at this; exact this), rfl⟩⟩)
                  · skip
                    refine mw_iload dX7_copy_83 rfl ?_
                    refine mw_aload_n dX7_copy_85 rfl ?_
                    refine mw_getr dX7_copy_86 fl_X7_54 rfl (by assumption) (by assumption) ?_
                    refine mw_iload_n dX7_copy_89 rfl ?_
                    refine mw_ialdK (k := j) dX7_copy_90 (by assumption) (e3) (by omega) (by decide) ?_
                    refine mw_iload dX7_copy_91 rfl ?_
                    refine mw_isub dX7_copy_93 ?_
                    refine mw_icmp_le (tgt := 101) dX7_copy_94 (by decide) (fun h94 => ?_) (fun h94 => ?_)
                    · skip
                      refine mw_iconst (v := 0) dX7_copy_101 (by decide) ?_
                      refine mw_istore dX7_copy_102 (by decide) ?_
                      have g2 : 0 ≤ p ∧ 0 ≤ n ∧ p ≤ mi (o + 15) i - n := ⟨Int32.not_lt.mp h57, Int32.not_lt.mp h67, Int32.not_lt.mp h80⟩
                      have g3 : 0 ≤ a ∧ 0 ≤ n ∧ a ≤ mi (o + 15) j - n := ⟨Int32.not_lt.mp h62, Int32.not_lt.mp h67, h94⟩
                      have w1 := g2
                      have w2 := g3
                      rw [hz] at w1
                      rw [hy] at w2
                      have p1 := plIn z24 w1
                      have p2 := plIn y24 w2
                      obtain ⟨b, b31, hb⟩ := nI_of (Int32.not_lt.mpr g2.1)
                      obtain ⟨c, c31, hc⟩ := nI_of (Int32.not_lt.mpr g3.1)
                      obtain ⟨d, d31, hd⟩ := nI_of (Int32.not_lt.mpr g2.2.1)
                      rw [hb, hd, nI_clamp b31, nI_clamp d31] at p1
                      rw [hc, hd, nI_clamp c31, nI_clamp d31] at p2
                      have gg := go i j b c d (by omega) (by omega) (by omega) (by omega) e1 hb e3 hc hd ⟨⟨h4, h11⟩, by rw [c1, c3]; exact g0, by rw [c1, c3]; exact h50, by rw [c1]; exact g2, by rw [c3]; exact g3⟩ (by rw [mCopyR, if_pos ⟨h4, h11⟩, c1, c3, if_neg g0, if_neg (fun q => q h50), if_pos ⟨g2, g3⟩])
                      rw [← e1, ← hb, ← e3, ← hc, ← hd] at gg
                      exact MW.sub (by simp [lsub, nI_0]) gg
                    · skip
                      have g1 : ¬ ((0 ≤ p ∧ 0 ≤ n ∧ p ≤ mi (o + 15) i - n) ∧ (0 ≤ a ∧ 0 ≤ n ∧ a ≤ mi (o + 15) j - n)) := (by first | exact fun q => absurd q.1.1 (Int32.not_le.mpr h57) | exact fun q => absurd q.2.1 (Int32.not_le.mpr h62) | exact fun q => absurd q.1.2.1 (Int32.not_le.mpr h67) | exact fun q => absurd q.1.2.2 (Int32.not_le.mpr h80) | exact fun q => h94 q.2.2.2)
                      refine mw_ldcw dX7_copy_97 cn_X7_263 ?_
                      exact mw_iret dX7_copy_100 rfl (by decide) (by decide) (⟨by rw [mCopyR, if_pos ⟨h4, h11⟩, c1, c3, if_neg g0, if_neg (fun q => q h50), if_neg g1], rfl, Or.inl ⟨fun q => g1 (by have := q.2.2.2; rw [c1, c3] at this; exact this), rfl⟩⟩)
          · skip
            refine mw_ldc dX7_copy_53 cn_X7_141 ?_
            exact mw_iret dX7_copy_55 rfl (by decide) (by decide) (⟨by rw [mCopyR, if_pos ⟨h4, h11⟩, c1, c3, if_neg g0, if_pos h50], rfl, Or.inl ⟨fun q => h50 (by have := q.2.2.1; rw [c1, c3] at this; exact this), rfl⟩⟩)
        · skip
          refine mw_ldc dX7_copy_35 cn_X7_190 ?_
          exact mw_iret dX7_copy_37 rfl (by decide) (by decide) (by have g : mi (o + 14) i < 0 ∨ mi (o + 14) j < 0 := (by first | exact Or.inl h23 | exact Or.inr (Int32.not_le.mp h32)); exact ⟨by rw [mCopyR, if_pos ⟨h4, h11⟩, c1, c3, if_pos g], rfl, Or.inl ⟨fun q => q.2.1 (by rw [c1, c3]; exact g), rfl⟩⟩)
    · skip
      refine mw_ldc dX7_copy_14 cn_X7_127 ?_
      exact mw_iret dX7_copy_16 rfl (by decide) (by decide) (⟨by rw [mCopyR, if_neg (by grind)], rfl, Or.inl ⟨fun g => by have q := g.1; grind, rfl⟩⟩)
