theorem i_dec (x : Int32) : x + Int32.ofInt (-1) = x - 1 := by
  have e : Int32.ofInt (-1) = -1 := by decide
  rw [e, ← Int32.sub_eq_add_neg]
theorem dX7_bits_0 : decode fX7_bits.2.1 0 = .ok (.iconst 0, 1) := by decide +kernel
theorem dX7_bits_1 : decode fX7_bits.2.1 1 = .ok (.istore_n 1, 1) := by decide +kernel
theorem dX7_bits_2 : decode fX7_bits.2.1 2 = .ok (.iload_n 0, 1) := by decide +kernel
theorem dX7_bits_3 : decode fX7_bits.2.1 3 = .ok (.istore_n 2, 1) := by decide +kernel
theorem dX7_bits_4 : decode fX7_bits.2.1 4 = .ok (.iload_n 2, 1) := by decide +kernel
theorem dX7_bits_5 : decode fX7_bits.2.1 5 = .ok (.ifCond .eq 15, 3) := by decide +kernel
theorem dX7_bits_8 : decode fX7_bits.2.1 8 = .ok (.iinc 1 1, 3) := by decide +kernel
theorem dX7_bits_11 : decode fX7_bits.2.1 11 = .ok (.iload_n 2, 1) := by decide +kernel
theorem dX7_bits_12 : decode fX7_bits.2.1 12 = .ok (.iload_n 2, 1) := by decide +kernel
theorem dX7_bits_13 : decode fX7_bits.2.1 13 = .ok (.iconst 1, 1) := by decide +kernel
theorem dX7_bits_14 : decode fX7_bits.2.1 14 = .ok (.isub, 1) := by decide +kernel
theorem dX7_bits_15 : decode fX7_bits.2.1 15 = .ok (.iand, 1) := by decide +kernel
theorem dX7_bits_16 : decode fX7_bits.2.1 16 = .ok (.istore_n 2, 1) := by decide +kernel
theorem dX7_bits_17 : decode fX7_bits.2.1 17 = .ok (.goto (-13), 3) := by decide +kernel
theorem dX7_bits_20 : decode fX7_bits.2.1 20 = .ok (.iload_n 1, 1) := by decide +kernel
theorem dX7_bits_21 : decode fX7_bits.2.1 21 = .ok (.ireturn, 1) := by decide +kernel
set_option maxRecDepth 100000 in
set_option maxHeartbeats 4000000 in
theorem ok_X7_bits {X : Xb} {S : Sg} {mi : Mem} {x : Int32} : OkI 0 fX7_bits X [.int x] S mi (popI x) mi := by
  refine Ok.go [some (.int x), none, none] (by decide) (by simp [Value.category]) (Nat.le_of_ble_eq_true rfl) rfl ?_
  have loop : ∀ (q c : Nat) (r : Int32), pcN (uV r) = q → c + q = pcN (uV x) → MW X fX7_bits (rmOf 0 0 0) 0 0 4 [some (.int x), some (.int (nI c)), some (.int r)] [] S mi (mQ X 0 0 (pI (popI x) S mi)) := by
    intro q
    induction q with
    | zero =>
      intro c r hq hc
      have hr : r = 0 := uV_0.mp (Classical.not_not.mp fun h => by have := pcN_pos h; omega)
      refine mw_iload_n dX7_bits_4 rfl ?_
      refine mw_if_eq (tgt := 20) dX7_bits_5 (by decide) (fun h5 => ?_) (fun h5 => ?_)
      · skip
        refine mw_iload_n dX7_bits_20 rfl ?_
        exact mw_iret dX7_bits_21 rfl (by decide) (by decide) (⟨by simp only [popI, ← hc, Nat.add_zero], rfl, rfl⟩)
      · skip
        exact absurd hr h5
    | succ q ih =>
      intro c r hq hc
      refine mw_iload_n dX7_bits_4 rfl ?_
      refine mw_if_eq (tgt := 20) dX7_bits_5 (by decide) (fun h5 => ?_) (fun h5 => ?_)
      · skip
        rw [uV_0.mpr h5, pcN_0] at hq
        omega
      · skip
        refine mw_iincK (k := c) dX7_bits_8 rfl rfl (by decide) ?_
        refine mw_iload_n dX7_bits_11 rfl ?_
        refine mw_iload_n dX7_bits_12 rfl ?_
        refine mw_iconst (v := 1) dX7_bits_13 (by decide) ?_
        refine mw_isub dX7_bits_14 ?_
        refine mw_iand dX7_bits_15 ?_
        refine mw_istN 2 dX7_bits_16 rfl (by decide) ?_
        refine mw_goto (tgt := 4) dX7_bits_17 (by decide) ?_
        exact MW.sub (by simp [lsub]) (ih (c + 1) (r &&& (r - 1)) (by have := pcN_low (uV r) (fun q => h5 (uV_0.mp q)); rw [uV_and, uV_dec h5]; omega) (by omega))
  refine mw_iconst (v := 0) dX7_bits_0 (by decide) ?_
  refine mw_istN 1 dX7_bits_1 rfl (by decide) ?_
  refine mw_iload_n dX7_bits_2 rfl ?_
  refine mw_istN 2 dX7_bits_3 rfl (by decide) ?_
  exact MW.sub (by simp [lsub, nI_0]) (loop _ 0 x rfl (by omega))
def mPrices (price : Nat → Int32) (set : Int32) : Int32 := fld (fun s k => s + (if set >>> (nI k &&& 31) &&& 1 = 1 then price k else 0)) 0 8
theorem dX7_pricesOf_0 : decode fX7_pricesOf.2.1 0 = .ok (.iconst 0, 1) := by decide +kernel
theorem dX7_pricesOf_1 : decode fX7_pricesOf.2.1 1 = .ok (.istore_n 2, 1) := by decide +kernel
theorem dX7_pricesOf_2 : decode fX7_pricesOf.2.1 2 = .ok (.iconst 0, 1) := by decide +kernel
theorem dX7_pricesOf_3 : decode fX7_pricesOf.2.1 3 = .ok (.istore_n 3, 1) := by decide +kernel
theorem dX7_pricesOf_4 : decode fX7_pricesOf.2.1 4 = .ok (.iload_n 3, 1) := by decide +kernel
theorem dX7_pricesOf_5 : decode fX7_pricesOf.2.1 5 = .ok (.bipush 8, 2) := by decide +kernel
theorem dX7_pricesOf_7 : decode fX7_pricesOf.2.1 7 = .ok (.if_icmp .ge 34, 3) := by decide +kernel
theorem dX7_pricesOf_10 : decode fX7_pricesOf.2.1 10 = .ok (.iload_n 2, 1) := by decide +kernel
theorem dX7_pricesOf_11 : decode fX7_pricesOf.2.1 11 = .ok (.iload_n 1, 1) := by decide +kernel
theorem dX7_pricesOf_12 : decode fX7_pricesOf.2.1 12 = .ok (.iload_n 3, 1) := by decide +kernel
theorem dX7_pricesOf_13 : decode fX7_pricesOf.2.1 13 = .ok (.ishr, 1) := by decide +kernel
theorem dX7_pricesOf_14 : decode fX7_pricesOf.2.1 14 = .ok (.iconst 1, 1) := by decide +kernel
theorem dX7_pricesOf_15 : decode fX7_pricesOf.2.1 15 = .ok (.iand, 1) := by decide +kernel
theorem dX7_pricesOf_16 : decode fX7_pricesOf.2.1 16 = .ok (.iconst 1, 1) := by decide +kernel
theorem dX7_pricesOf_17 : decode fX7_pricesOf.2.1 17 = .ok (.if_icmp .ne 15, 3) := by decide +kernel
theorem dX7_pricesOf_20 : decode fX7_pricesOf.2.1 20 = .ok (.aload_n 0, 1) := by decide +kernel
theorem dX7_pricesOf_21 : decode fX7_pricesOf.2.1 21 = .ok (.getfield 9, 3) := by decide +kernel
theorem dX7_pricesOf_24 : decode fX7_pricesOf.2.1 24 = .ok (.bipush 18, 2) := by decide +kernel
theorem dX7_pricesOf_26 : decode fX7_pricesOf.2.1 26 = .ok (.iload_n 3, 1) := by decide +kernel
theorem dX7_pricesOf_27 : decode fX7_pricesOf.2.1 27 = .ok (.iadd, 1) := by decide +kernel
theorem dX7_pricesOf_28 : decode fX7_pricesOf.2.1 28 = .ok (.iaload, 1) := by decide +kernel
theorem dX7_pricesOf_29 : decode fX7_pricesOf.2.1 29 = .ok (.goto 4, 3) := by decide +kernel
theorem dX7_pricesOf_32 : decode fX7_pricesOf.2.1 32 = .ok (.iconst 0, 1) := by decide +kernel
theorem dX7_pricesOf_33 : decode fX7_pricesOf.2.1 33 = .ok (.iadd, 1) := by decide +kernel
theorem dX7_pricesOf_34 : decode fX7_pricesOf.2.1 34 = .ok (.istore_n 2, 1) := by decide +kernel
theorem dX7_pricesOf_35 : decode fX7_pricesOf.2.1 35 = .ok (.iinc 3 1, 3) := by decide +kernel
theorem dX7_pricesOf_38 : decode fX7_pricesOf.2.1 38 = .ok (.goto (-34), 3) := by decide +kernel
theorem dX7_pricesOf_41 : decode fX7_pricesOf.2.1 41 = .ok (.iload_n 2, 1) := by decide +kernel
theorem dX7_pricesOf_42 : decode fX7_pricesOf.2.1 42 = .ok (.ireturn, 1) := by decide +kernel
set_option maxRecDepth 100000 in
set_option maxHeartbeats 4000000 in
theorem ok_X7_pricesOf {X : Xb} {S : Sg} {mi : Mem} {o : Nat} {v : Int32} (hM : MdA S o) : OkI 0 fX7_pricesOf X [rf X o, .int v] S mi (mPrices (fun k => mi (o + 1) (18 + k)) v) mi := by
  refine Ok.go [some (rf X o), some (.int v), none, none] (by decide) (by simp [Value.category]) (Nat.le_of_ble_eq_true rfl) rfl ?_
  obtain ⟨k_o, ⟨r_o_now, k_o_now⟩, ⟨r_o_image, k_o_image⟩, ⟨r_o_aside, k_o_aside⟩, ⟨r_o_seen, k_o_seen⟩, ⟨r_o_unlike, k_o_unlike⟩, ⟨r_o_tape, k_o_tape⟩, ⟨r_o_keys, k_o_keys⟩, ⟨r_o_keyAt, k_o_keyAt⟩, ⟨r_o_code, k_o_code⟩, ⟨r_o_waits, k_o_waits⟩, ⟨r_o_tested, k_o_tested⟩, ⟨r_o_stack, k_o_stack⟩, ⟨r_o_facts, k_o_facts⟩, ⟨r_o_sorts, k_o_sorts⟩, ⟨r_o_sizes, k_o_sizes⟩, ⟨r_o_cells, k_o_cells⟩, ⟨r_o_holds, k_o_holds⟩, ⟨r_o_holdsA, k_o_holdsA⟩, ⟨r_o_holdsB, k_o_holdsB⟩, ⟨r_o_heldCells, k_o_heldCells⟩, ⟨r_o_moved, k_o_moved⟩, ⟨r_o_tells, k_o_tells⟩⟩ := id hM
  have lp := mw_dn (P := fun k => MW X fX7_pricesOf (rmOf 0 0 0) 0 0 4 [some (rf X o), some (.int v), some (.int (fld (fun s k => s + (if v >>> (nI k &&& 31) &&& 1 = 1 then mi (o + 1) (18 + k) else 0)) 0 k)), some (.int (nI k))] [] S mi (mQ X 0 0 (pI (mPrices (fun k => mi (o + 1) (18 + k)) v) S mi))) 8 (by
    refine mw_iload_n dX7_pricesOf_4 rfl ?_
    refine mw_bipush (v := 8) dX7_pricesOf_5 (by decide) ?_
    refine mw_icmp_ge (tgt := 41) dX7_pricesOf_7 (by decide) (fun h7 => ?_) (fun h7 => ?_)
    · skip
      refine mw_iload_n dX7_pricesOf_41 rfl ?_
      exact mw_iret dX7_pricesOf_42 rfl (by decide) (by decide) (⟨rfl, rfl, rfl⟩)
    · skip
      exact absurd (by decide) h7) (fun k hk ih => by
    refine mw_iload_n dX7_pricesOf_4 rfl ?_
    refine mw_bipush (v := 8) dX7_pricesOf_5 (by decide) ?_
    refine mw_icmp_ge (tgt := 41) dX7_pricesOf_7 (by decide) (fun h7 => ?_) (fun h7 => ?_)
    · skip
      exact absurd h7 (nI_ge (b := 8) (by omega) (by decide))
    · skip
      refine mw_iload_n dX7_pricesOf_10 rfl ?_
      refine mw_iload_n dX7_pricesOf_11 rfl ?_
      refine mw_iload_n dX7_pricesOf_12 rfl ?_
      refine mw_ishr dX7_pricesOf_13 ?_
      refine mw_iconst (v := 1) dX7_pricesOf_14 (by decide) ?_
      refine mw_iand dX7_pricesOf_15 ?_
      refine mw_iconst (v := 1) dX7_pricesOf_16 (by decide) ?_
      refine mw_icmp_ne (tgt := 32) dX7_pricesOf_17 (by decide) (fun h17 => ?_) (fun h17 => ?_)
      · skip
        refine mw_iconst (v := 0) dX7_pricesOf_32 (by decide) ?_
        refine mw_iadd dX7_pricesOf_33 ?_
        refine mw_istN 2 dX7_pricesOf_34 rfl (by decide) ?_
        refine mw_iincK (k := k) dX7_pricesOf_35 rfl rfl (by decide) ?_
        refine mw_goto (tgt := 4) dX7_pricesOf_38 (by decide) ?_
        exact MW.sub (by simp [lsub, fld, h17]) ih
      · skip
        refine mw_aload_n dX7_pricesOf_20 rfl ?_
        refine mw_getr dX7_pricesOf_21 fl_X7_9 rfl (by assumption) (by assumption) ?_
        refine mw_bipush (v := 18) dX7_pricesOf_24 (by decide) ?_
        refine mw_iload_n dX7_pricesOf_26 rfl ?_
        refine mw_iadd dX7_pricesOf_27 ?_
        refine mw_ialdK (k := 18 + k) dX7_pricesOf_28 (by assumption) (ix18 k) (by omega) (by decide) ?_
        refine mw_goto (tgt := 33) dX7_pricesOf_29 (by decide) ?_
        refine mw_iadd dX7_pricesOf_33 ?_
        refine mw_istN 2 dX7_pricesOf_34 rfl (by decide) ?_
        refine mw_iincK (k := k) dX7_pricesOf_35 rfl rfl (by decide) ?_
        refine mw_goto (tgt := 4) dX7_pricesOf_38 (by decide) ?_
        exact MW.sub (by simp [lsub, fld, h17]) ih)
  refine mw_iconst (v := 0) dX7_pricesOf_0 (by decide) ?_
  refine mw_istN 2 dX7_pricesOf_1 rfl (by decide) ?_
  refine mw_iconst (v := 0) dX7_pricesOf_2 (by decide) ?_
  refine mw_istN 3 dX7_pricesOf_3 rfl (by decide) ?_
  exact MW.sub (by simp [lsub, fld, nI_0]) lp
/-- the text that counts for a key, among the first n -/
def lastK (A : Nat → Int32) (key : Int32) : Nat → Option Nat
  | 0 => none
  | n + 1 => if A (66 + 2 * n) / 1000 = key then some n else lastK A key n
def lastI (A : Nat → Int32) (key : Int32) (n : Nat) : Int32 := match lastK A key n with
  | none => -1
  | some t => nI t
theorem lastK_lt {A : Nat → Int32} {key : Int32} {t : Nat} : ∀ n, lastK A key n = some t → t < n
  | 0, h => by cases h
  | n + 1, h => by
    simp only [lastK] at h
    split at h
    · cases h; omega
    · have := lastK_lt n h; omega
theorem nI_succ_ge (n : Nat) (h : n < 2 ^ 31) : ¬ nI n < 0 := nI_pos h
theorem dX7_counts_0 : decode fX7_counts.2.1 0 = .ok (.aload_n 0, 1) := by decide +kernel
theorem dX7_counts_1 : decode fX7_counts.2.1 1 = .ok (.getfield 9, 3) := by decide +kernel
theorem dX7_counts_4 : decode fX7_counts.2.1 4 = .ok (.iconst 5, 1) := by decide +kernel
theorem dX7_counts_5 : decode fX7_counts.2.1 5 = .ok (.iaload, 1) := by decide +kernel
theorem dX7_counts_6 : decode fX7_counts.2.1 6 = .ok (.iconst 1, 1) := by decide +kernel
theorem dX7_counts_7 : decode fX7_counts.2.1 7 = .ok (.isub, 1) := by decide +kernel
theorem dX7_counts_8 : decode fX7_counts.2.1 8 = .ok (.istore_n 2, 1) := by decide +kernel
theorem dX7_counts_9 : decode fX7_counts.2.1 9 = .ok (.iload_n 2, 1) := by decide +kernel
theorem dX7_counts_10 : decode fX7_counts.2.1 10 = .ok (.ifCond .lt 30, 3) := by decide +kernel
theorem dX7_counts_13 : decode fX7_counts.2.1 13 = .ok (.aload_n 0, 1) := by decide +kernel
theorem dX7_counts_14 : decode fX7_counts.2.1 14 = .ok (.getfield 9, 3) := by decide +kernel
theorem dX7_counts_17 : decode fX7_counts.2.1 17 = .ok (.bipush 66, 2) := by decide +kernel
theorem dX7_counts_19 : decode fX7_counts.2.1 19 = .ok (.iconst 2, 1) := by decide +kernel
theorem dX7_counts_20 : decode fX7_counts.2.1 20 = .ok (.iload_n 2, 1) := by decide +kernel
theorem dX7_counts_21 : decode fX7_counts.2.1 21 = .ok (.imul, 1) := by decide +kernel
theorem dX7_counts_22 : decode fX7_counts.2.1 22 = .ok (.iadd, 1) := by decide +kernel
theorem dX7_counts_23 : decode fX7_counts.2.1 23 = .ok (.iaload, 1) := by decide +kernel
theorem dX7_counts_24 : decode fX7_counts.2.1 24 = .ok (.sipush 1000, 3) := by decide +kernel
theorem dX7_counts_27 : decode fX7_counts.2.1 27 = .ok (.idiv, 1) := by decide +kernel
theorem dX7_counts_28 : decode fX7_counts.2.1 28 = .ok (.iload_n 1, 1) := by decide +kernel
theorem dX7_counts_29 : decode fX7_counts.2.1 29 = .ok (.if_icmp .ne 5, 3) := by decide +kernel
theorem dX7_counts_32 : decode fX7_counts.2.1 32 = .ok (.iload_n 2, 1) := by decide +kernel
theorem dX7_counts_33 : decode fX7_counts.2.1 33 = .ok (.ireturn, 1) := by decide +kernel
theorem dX7_counts_34 : decode fX7_counts.2.1 34 = .ok (.iinc 2 (-1), 3) := by decide +kernel
theorem dX7_counts_37 : decode fX7_counts.2.1 37 = .ok (.goto (-28), 3) := by decide +kernel
theorem dX7_counts_40 : decode fX7_counts.2.1 40 = .ok (.iconst (-1), 1) := by decide +kernel
theorem dX7_counts_41 : decode fX7_counts.2.1 41 = .ok (.ireturn, 1) := by decide +kernel
set_option maxRecDepth 100000 in
set_option maxHeartbeats 4000000 in
theorem ok_X7_counts {X : Xb} {S : Sg} {mi : Mem} {o n : Nat} {key : Int32} (hM : MdA S o) (hn : mi (o + 1) 5 = nI n) (hn14 : n ≤ 14) : OkI 0 fX7_counts X [rf X o, .int key] S mi (lastI (mi (o + 1)) key n) mi := by
  refine Ok.go [some (rf X o), some (.int key), none] (by decide) (by simp [Value.category]) (Nat.le_of_ble_eq_true rfl) rfl ?_
  obtain ⟨k_o, ⟨r_o_now, k_o_now⟩, ⟨r_o_image, k_o_image⟩, ⟨r_o_aside, k_o_aside⟩, ⟨r_o_seen, k_o_seen⟩, ⟨r_o_unlike, k_o_unlike⟩, ⟨r_o_tape, k_o_tape⟩, ⟨r_o_keys, k_o_keys⟩, ⟨r_o_keyAt, k_o_keyAt⟩, ⟨r_o_code, k_o_code⟩, ⟨r_o_waits, k_o_waits⟩, ⟨r_o_tested, k_o_tested⟩, ⟨r_o_stack, k_o_stack⟩, ⟨r_o_facts, k_o_facts⟩, ⟨r_o_sorts, k_o_sorts⟩, ⟨r_o_sizes, k_o_sizes⟩, ⟨r_o_cells, k_o_cells⟩, ⟨r_o_holds, k_o_holds⟩, ⟨r_o_holdsA, k_o_holdsA⟩, ⟨r_o_holdsB, k_o_holdsB⟩, ⟨r_o_heldCells, k_o_heldCells⟩, ⟨r_o_moved, k_o_moved⟩, ⟨r_o_tells, k_o_tells⟩⟩ := id hM
  have loop : ∀ k, k ≤ n → lastK (mi (o + 1)) key n = lastK (mi (o + 1)) key k → MW X fX7_counts (rmOf 0 0 0) 0 0 9 [some (rf X o), some (.int key), some (.int (nI k - 1))] [] S mi (mQ X 0 0 (pI (lastI (mi (o + 1)) key n) S mi)) := by
    intro k
    induction k with
    | zero =>
      intro hk he
      refine mw_iload_n dX7_counts_9 rfl ?_
      refine mw_if_lt (tgt := 40) dX7_counts_10 (by decide) (fun h10 => ?_) (fun h10 => ?_)
      · skip
        refine mw_iconst (v := (-1)) dX7_counts_40 (by decide) ?_
        exact mw_iret dX7_counts_41 rfl (by decide) (by decide) (⟨by rw [lastI, he]; rfl, rfl, rfl⟩)
      · skip
        exact absurd (by decide) h10
    | succ k ih =>
      intro hk he
      rw [nI_pred]
      simp only [lastK] at he
      refine mw_iload_n dX7_counts_9 rfl ?_
      refine mw_if_lt (tgt := 40) dX7_counts_10 (by decide) (fun h10 => ?_) (fun h10 => ?_)
      · skip
        exact absurd h10 (nI_pos (by omega))
      · skip
        refine mw_aload_n dX7_counts_13 rfl ?_
        refine mw_getr dX7_counts_14 fl_X7_9 rfl (by assumption) (by assumption) ?_
        refine mw_bipush (v := 66) dX7_counts_17 (by decide) ?_
        refine mw_iconst (v := 2) dX7_counts_19 (by decide) ?_
        refine mw_iload_n dX7_counts_20 rfl ?_
        refine mw_imul dX7_counts_21 ?_
        refine mw_iadd dX7_counts_22 ?_
        refine mw_ialdK (k := 66 + 2 * k) dX7_counts_23 (by assumption) (ix66 k) (by omega) (by decide) ?_
        refine mw_sipush (v := 1000) dX7_counts_24 (by decide) ?_
        refine mw_idiv dX7_counts_27 (by decide) ?_
        refine mw_iload_n dX7_counts_28 rfl ?_
        refine mw_icmp_ne (tgt := 34) dX7_counts_29 (by decide) (fun h29 => ?_) (fun h29 => ?_)
        · skip
          refine mw_iinc dX7_counts_34 rfl (by decide) (i_dec (nI k)) ?_
          refine mw_goto (tgt := 9) dX7_counts_37 (by decide) ?_
          exact MW.sub (by simp [lsub]) (ih (by omega) (by rw [he, if_neg h29]))
        · skip
          refine mw_iload_n dX7_counts_32 rfl ?_
          exact mw_iret dX7_counts_33 rfl (by decide) (by decide) (⟨by rw [lastI, he, if_pos h29], rfl, rfl⟩)
  refine mw_aload_n dX7_counts_0 rfl ?_
  refine mw_getr dX7_counts_1 fl_X7_9 rfl (by assumption) (by assumption) ?_
  refine mw_iconst (v := 5) dX7_counts_4 (by decide) ?_
  refine mw_ialdK (k := 5) dX7_counts_5 (by assumption) (rfl) (by decide) (by decide) ?_
  rw [hn]
  refine mw_iconst (v := 1) dX7_counts_6 (by decide) ?_
  refine mw_isub dX7_counts_7 ?_
  refine mw_istN 2 dX7_counts_8 rfl (by decide) ?_
  exact MW.sub (by simp [lsub]) (loop n (Nat.le_refl n) rfl)
/-- the model's law machine -/
def wStep (nm : Nat → Int32) (st : Nat × (Nat → Int32)) (x : Int32) : Nat × (Nat → Int32) :=
  if x < 0 then
    if x = -10 then (st.1, upd st.2 (st.1 - 1) (if st.2 (st.1 - 1) = 0 then 1 else 0))
    else (st.1 - 1, upd st.2 (st.1 - 2) (mTwo x (st.2 (st.1 - 2)) (st.2 (st.1 - 1))))
  else (st.1 + 1, upd st.2 st.1 (if 10000 ≤ x then nm (x - 10000).toNatClampNeg else x))
def wRun (nm s p : Nat → Int32) : Nat → Nat × (Nat → Int32)
  | 0 => (0, p)
  | k + 1 => wStep nm (wRun nm s p k) (s k)
def wDep (s : Nat → Int32) : Nat → Nat
  | 0 => 0
  | k + 1 => if s k < 0 then (if s k = -10 then wDep s k else wDep s k - 1) else wDep s k + 1
def WfM (s : Nat → Int32) (n : Nat) : Prop := 0 < n ∧ n ≤ 96 ∧ ∀ k, k < n → (s k < 0 → (s k = -10 → 1 ≤ wDep s k) ∧ (s k ≠ -10 → 2 ≤ wDep s k)) ∧ (10000 ≤ s k → vp_in (s k - 10000) 4)
theorem wDep_le (s : Nat → Int32) : ∀ k, wDep s k ≤ k
  | 0 => Nat.le_refl 0
  | k + 1 => by
    have := wDep_le s k
    simp only [wDep]
    grind
theorem wRun_dep (nm s p : Nat → Int32) : ∀ k, (wRun nm s p k).1 = wDep s k
  | 0 => rfl
  | k + 1 => by
    have := wRun_dep nm s p k
    simp only [wRun, wStep, wDep]
    grind
theorem dX7_worksOut_0 : decode fX7_worksOut.2.1 0 = .ok (.iconst 0, 1) := by decide +kernel
theorem dX7_worksOut_1 : decode fX7_worksOut.2.1 1 = .ok (.istore_n 2, 1) := by decide +kernel
theorem dX7_worksOut_2 : decode fX7_worksOut.2.1 2 = .ok (.aload_n 0, 1) := by decide +kernel
theorem dX7_worksOut_3 : decode fX7_worksOut.2.1 3 = .ok (.getfield 9, 3) := by decide +kernel
theorem dX7_worksOut_6 : decode fX7_worksOut.2.1 6 = .ok (.bipush 66, 2) := by decide +kernel
theorem dX7_worksOut_8 : decode fX7_worksOut.2.1 8 = .ok (.iconst 2, 1) := by decide +kernel
theorem dX7_worksOut_9 : decode fX7_worksOut.2.1 9 = .ok (.iload_n 1, 1) := by decide +kernel
theorem dX7_worksOut_10 : decode fX7_worksOut.2.1 10 = .ok (.imul, 1) := by decide +kernel
theorem dX7_worksOut_11 : decode fX7_worksOut.2.1 11 = .ok (.iadd, 1) := by decide +kernel
theorem dX7_worksOut_12 : decode fX7_worksOut.2.1 12 = .ok (.iaload, 1) := by decide +kernel
theorem dX7_worksOut_13 : decode fX7_worksOut.2.1 13 = .ok (.sipush 1000, 3) := by decide +kernel
theorem dX7_worksOut_16 : decode fX7_worksOut.2.1 16 = .ok (.irem, 1) := by decide +kernel
theorem dX7_worksOut_17 : decode fX7_worksOut.2.1 17 = .ok (.istore_n 3, 1) := by decide +kernel
theorem dX7_worksOut_18 : decode fX7_worksOut.2.1 18 = .ok (.iconst 0, 1) := by decide +kernel
theorem dX7_worksOut_19 : decode fX7_worksOut.2.1 19 = .ok (.istore 4, 2) := by decide +kernel
theorem dX7_worksOut_21 : decode fX7_worksOut.2.1 21 = .ok (.iload 4, 2) := by decide +kernel
theorem dX7_worksOut_23 : decode fX7_worksOut.2.1 23 = .ok (.iload_n 3, 1) := by decide +kernel
theorem dX7_worksOut_24 : decode fX7_worksOut.2.1 24 = .ok (.if_icmp .ge 131, 3) := by decide +kernel
theorem dX7_worksOut_27 : decode fX7_worksOut.2.1 27 = .ok (.aload_n 0, 1) := by decide +kernel
theorem dX7_worksOut_28 : decode fX7_worksOut.2.1 28 = .ok (.getfield 9, 3) := by decide +kernel
theorem dX7_worksOut_31 : decode fX7_worksOut.2.1 31 = .ok (.bipush 94, 2) := by decide +kernel
theorem dX7_worksOut_33 : decode fX7_worksOut.2.1 33 = .ok (.bipush 96, 2) := by decide +kernel
theorem dX7_worksOut_35 : decode fX7_worksOut.2.1 35 = .ok (.iload_n 1, 1) := by decide +kernel
theorem dX7_worksOut_36 : decode fX7_worksOut.2.1 36 = .ok (.imul, 1) := by decide +kernel
theorem dX7_worksOut_37 : decode fX7_worksOut.2.1 37 = .ok (.iadd, 1) := by decide +kernel
theorem dX7_worksOut_38 : decode fX7_worksOut.2.1 38 = .ok (.iload 4, 2) := by decide +kernel
theorem dX7_worksOut_40 : decode fX7_worksOut.2.1 40 = .ok (.iadd, 1) := by decide +kernel
theorem dX7_worksOut_41 : decode fX7_worksOut.2.1 41 = .ok (.iaload, 1) := by decide +kernel
theorem dX7_worksOut_42 : decode fX7_worksOut.2.1 42 = .ok (.istore 5, 2) := by decide +kernel
theorem dX7_worksOut_44 : decode fX7_worksOut.2.1 44 = .ok (.iload 5, 2) := by decide +kernel
theorem dX7_worksOut_46 : decode fX7_worksOut.2.1 46 = .ok (.ifCond .lt 39, 3) := by decide +kernel
theorem dX7_worksOut_49 : decode fX7_worksOut.2.1 49 = .ok (.aload_n 0, 1) := by decide +kernel
theorem dX7_worksOut_50 : decode fX7_worksOut.2.1 50 = .ok (.getfield 45, 3) := by decide +kernel
theorem dX7_worksOut_53 : decode fX7_worksOut.2.1 53 = .ok (.iload_n 2, 1) := by decide +kernel
theorem dX7_worksOut_54 : decode fX7_worksOut.2.1 54 = .ok (.iload 5, 2) := by decide +kernel
theorem dX7_worksOut_56 : decode fX7_worksOut.2.1 56 = .ok (.sipush 10000, 3) := by decide +kernel
theorem dX7_worksOut_59 : decode fX7_worksOut.2.1 59 = .ok (.if_icmp .ge 8, 3) := by decide +kernel
theorem dX7_worksOut_62 : decode fX7_worksOut.2.1 62 = .ok (.iload 5, 2) := by decide +kernel
theorem dX7_worksOut_64 : decode fX7_worksOut.2.1 64 = .ok (.goto 14, 3) := by decide +kernel
theorem dX7_worksOut_67 : decode fX7_worksOut.2.1 67 = .ok (.aload_n 0, 1) := by decide +kernel
theorem dX7_worksOut_68 : decode fX7_worksOut.2.1 68 = .ok (.getfield 48, 3) := by decide +kernel
theorem dX7_worksOut_71 : decode fX7_worksOut.2.1 71 = .ok (.iload 5, 2) := by decide +kernel
theorem dX7_worksOut_73 : decode fX7_worksOut.2.1 73 = .ok (.sipush 10000, 3) := by decide +kernel
theorem dX7_worksOut_76 : decode fX7_worksOut.2.1 76 = .ok (.isub, 1) := by decide +kernel
theorem dX7_worksOut_77 : decode fX7_worksOut.2.1 77 = .ok (.iaload, 1) := by decide +kernel
theorem dX7_worksOut_78 : decode fX7_worksOut.2.1 78 = .ok (.iastore, 1) := by decide +kernel
theorem dX7_worksOut_79 : decode fX7_worksOut.2.1 79 = .ok (.iinc 2 1, 3) := by decide +kernel
theorem dX7_worksOut_82 : decode fX7_worksOut.2.1 82 = .ok (.goto 67, 3) := by decide +kernel
theorem dX7_worksOut_85 : decode fX7_worksOut.2.1 85 = .ok (.iload 5, 2) := by decide +kernel
theorem dX7_worksOut_87 : decode fX7_worksOut.2.1 87 = .ok (.bipush (-10), 2) := by decide +kernel
theorem dX7_worksOut_89 : decode fX7_worksOut.2.1 89 = .ok (.if_icmp .ne 30, 3) := by decide +kernel
theorem dX7_worksOut_92 : decode fX7_worksOut.2.1 92 = .ok (.aload_n 0, 1) := by decide +kernel
theorem dX7_worksOut_93 : decode fX7_worksOut.2.1 93 = .ok (.getfield 45, 3) := by decide +kernel
theorem dX7_worksOut_96 : decode fX7_worksOut.2.1 96 = .ok (.iload_n 2, 1) := by decide +kernel
theorem dX7_worksOut_97 : decode fX7_worksOut.2.1 97 = .ok (.iconst 1, 1) := by decide +kernel
theorem dX7_worksOut_98 : decode fX7_worksOut.2.1 98 = .ok (.isub, 1) := by decide +kernel
theorem dX7_worksOut_99 : decode fX7_worksOut.2.1 99 = .ok (.aload_n 0, 1) := by decide +kernel
theorem dX7_worksOut_100 : decode fX7_worksOut.2.1 100 = .ok (.getfield 45, 3) := by decide +kernel
theorem dX7_worksOut_103 : decode fX7_worksOut.2.1 103 = .ok (.iload_n 2, 1) := by decide +kernel
theorem dX7_worksOut_104 : decode fX7_worksOut.2.1 104 = .ok (.iconst 1, 1) := by decide +kernel
theorem dX7_worksOut_105 : decode fX7_worksOut.2.1 105 = .ok (.isub, 1) := by decide +kernel
theorem dX7_worksOut_106 : decode fX7_worksOut.2.1 106 = .ok (.iaload, 1) := by decide +kernel
theorem dX7_worksOut_107 : decode fX7_worksOut.2.1 107 = .ok (.ifCond .ne 7, 3) := by decide +kernel
theorem dX7_worksOut_110 : decode fX7_worksOut.2.1 110 = .ok (.iconst 1, 1) := by decide +kernel
theorem dX7_worksOut_111 : decode fX7_worksOut.2.1 111 = .ok (.goto 4, 3) := by decide +kernel
theorem dX7_worksOut_114 : decode fX7_worksOut.2.1 114 = .ok (.iconst 0, 1) := by decide +kernel
theorem dX7_worksOut_115 : decode fX7_worksOut.2.1 115 = .ok (.iastore, 1) := by decide +kernel
theorem dX7_worksOut_116 : decode fX7_worksOut.2.1 116 = .ok (.goto 33, 3) := by decide +kernel
theorem dX7_worksOut_119 : decode fX7_worksOut.2.1 119 = .ok (.iinc 2 (-1), 3) := by decide +kernel
theorem dX7_worksOut_122 : decode fX7_worksOut.2.1 122 = .ok (.aload_n 0, 1) := by decide +kernel
theorem dX7_worksOut_123 : decode fX7_worksOut.2.1 123 = .ok (.getfield 45, 3) := by decide +kernel
theorem dX7_worksOut_126 : decode fX7_worksOut.2.1 126 = .ok (.iload_n 2, 1) := by decide +kernel
theorem dX7_worksOut_127 : decode fX7_worksOut.2.1 127 = .ok (.iconst 1, 1) := by decide +kernel
theorem dX7_worksOut_128 : decode fX7_worksOut.2.1 128 = .ok (.isub, 1) := by decide +kernel
theorem dX7_worksOut_129 : decode fX7_worksOut.2.1 129 = .ok (.iload 5, 2) := by decide +kernel
theorem dX7_worksOut_131 : decode fX7_worksOut.2.1 131 = .ok (.aload_n 0, 1) := by decide +kernel
theorem dX7_worksOut_132 : decode fX7_worksOut.2.1 132 = .ok (.getfield 45, 3) := by decide +kernel
theorem dX7_worksOut_135 : decode fX7_worksOut.2.1 135 = .ok (.iload_n 2, 1) := by decide +kernel
theorem dX7_worksOut_136 : decode fX7_worksOut.2.1 136 = .ok (.iconst 1, 1) := by decide +kernel
theorem dX7_worksOut_137 : decode fX7_worksOut.2.1 137 = .ok (.isub, 1) := by decide +kernel
theorem dX7_worksOut_138 : decode fX7_worksOut.2.1 138 = .ok (.iaload, 1) := by decide +kernel
theorem dX7_worksOut_139 : decode fX7_worksOut.2.1 139 = .ok (.aload_n 0, 1) := by decide +kernel
theorem dX7_worksOut_140 : decode fX7_worksOut.2.1 140 = .ok (.getfield 45, 3) := by decide +kernel
theorem dX7_worksOut_143 : decode fX7_worksOut.2.1 143 = .ok (.iload_n 2, 1) := by decide +kernel
theorem dX7_worksOut_144 : decode fX7_worksOut.2.1 144 = .ok (.iaload, 1) := by decide +kernel
theorem dX7_worksOut_145 : decode fX7_worksOut.2.1 145 = .ok (.invokestatic 259, 3) := by decide +kernel
theorem dX7_worksOut_148 : decode fX7_worksOut.2.1 148 = .ok (.iastore, 1) := by decide +kernel
theorem dX7_worksOut_149 : decode fX7_worksOut.2.1 149 = .ok (.iinc 4 1, 3) := by decide +kernel
theorem dX7_worksOut_152 : decode fX7_worksOut.2.1 152 = .ok (.goto (-131), 3) := by decide +kernel
theorem dX7_worksOut_155 : decode fX7_worksOut.2.1 155 = .ok (.aload_n 0, 1) := by decide +kernel
theorem dX7_worksOut_156 : decode fX7_worksOut.2.1 156 = .ok (.getfield 45, 3) := by decide +kernel
theorem dX7_worksOut_159 : decode fX7_worksOut.2.1 159 = .ok (.iconst 0, 1) := by decide +kernel
theorem dX7_worksOut_160 : decode fX7_worksOut.2.1 160 = .ok (.iaload, 1) := by decide +kernel
theorem dX7_worksOut_161 : decode fX7_worksOut.2.1 161 = .ok (.ireturn, 1) := by decide +kernel
set_option maxRecDepth 100000 in
set_option maxHeartbeats 4000000 in
theorem ok_X7_worksOut {X : Xb} {S : Sg} {mi : Mem} {o t n : Nat} (hM : MdA S o) (ht : t < 14) (hn : jr (mi (o + 1) (66 + 2 * t)) 1000 = nI n) (hw : WfM (fun k => mi (o + 1) (94 + 96 * t + k)) n) : OkI 1 fX7_worksOut X [rf X o, .int (nI t)] S mi ((wRun (mi (o + 13)) (fun k => mi (o + 1) (94 + 96 * t + k)) (mi (o + 12)) n).2 0) (m_row mi (o + 12) (wRun (mi (o + 13)) (fun k => mi (o + 1) (94 + 96 * t + k)) (mi (o + 12)) n).2) := by
  refine Ok.go [some (rf X o), some (.int (nI t)), none, none, none, none] (by decide) (by simp [Value.category]) (Nat.le_of_ble_eq_true rfl) rfl ?_
  obtain ⟨k_o, ⟨r_o_now, k_o_now⟩, ⟨r_o_image, k_o_image⟩, ⟨r_o_aside, k_o_aside⟩, ⟨r_o_seen, k_o_seen⟩, ⟨r_o_unlike, k_o_unlike⟩, ⟨r_o_tape, k_o_tape⟩, ⟨r_o_keys, k_o_keys⟩, ⟨r_o_keyAt, k_o_keyAt⟩, ⟨r_o_code, k_o_code⟩, ⟨r_o_waits, k_o_waits⟩, ⟨r_o_tested, k_o_tested⟩, ⟨r_o_stack, k_o_stack⟩, ⟨r_o_facts, k_o_facts⟩, ⟨r_o_sorts, k_o_sorts⟩, ⟨r_o_sizes, k_o_sizes⟩, ⟨r_o_cells, k_o_cells⟩, ⟨r_o_holds, k_o_holds⟩, ⟨r_o_holdsA, k_o_holdsA⟩, ⟨r_o_holdsB, k_o_holdsB⟩, ⟨r_o_heldCells, k_o_heldCells⟩, ⟨r_o_moved, k_o_moved⟩, ⟨r_o_tells, k_o_tells⟩⟩ := id hM
  have hn96 := hw.2.1
  have n1 : o + 1 ≠ o + 12 := by omega
  have n13 : o + 13 ≠ o + 12 := by omega
  have lp := mw_dn (P := fun k => MW X fX7_worksOut (rmOf 1 0 0) 0 0 21 [some (rf X o), some (.int (nI t)), some (.int (nI (wRun (mi (o + 13)) (fun k => mi (o + 1) (94 + 96 * t + k)) (mi (o + 12)) k).1)), some (.int (nI n)), some (.int (nI k)), none] [] S (m_row mi (o + 12) (wRun (mi (o + 13)) (fun k => mi (o + 1) (94 + 96 * t + k)) (mi (o + 12)) k).2) (mQ X 0 0 (pI ((wRun (mi (o + 13)) (fun k => mi (o + 1) (94 + 96 * t + k)) (mi (o + 12)) n).2 0) S (m_row mi (o + 12) (wRun (mi (o + 13)) (fun k => mi (o + 1) (94 + 96 * t + k)) (mi (o + 12)) n).2)))) n (by
    refine mw_iload dX7_worksOut_21 rfl ?_
    refine mw_iload_n dX7_worksOut_23 rfl ?_
    refine mw_icmp_ge (tgt := 155) dX7_worksOut_24 (by decide) (fun h24 => ?_) (fun h24 => ?_)
    · skip
      refine mw_aload_n dX7_worksOut_155 rfl ?_
      refine mw_getr dX7_worksOut_156 fl_X7_45 rfl (by assumption) (by assumption) ?_
      refine mw_iconst (v := 0) dX7_worksOut_159 (by decide) ?_
      refine mw_ialdK (k := 0) dX7_worksOut_160 (by assumption) (rfl) (by decide) (by decide) ?_
      exact mw_iret dX7_worksOut_161 rfl (by decide) (by decide) (⟨by rw [m_row_self], rfl, rfl⟩)
    · skip
      exact absurd (Int32.le_refl _) h24) (fun k hk ih => by
    have hwk := hw.2.2 k hk
    have hdp := wRun_dep (mi (o + 13)) (fun k => mi (o + 1) (94 + 96 * t + k)) (mi (o + 12)) k
    have hle := wDep_le (fun k => mi (o + 1) (94 + 96 * t + k)) k
    have hrun : wRun (mi (o + 13)) (fun k => mi (o + 1) (94 + 96 * t + k)) (mi (o + 12)) (k + 1) = wStep (mi (o + 13)) (wRun (mi (o + 13)) (fun k => mi (o + 1) (94 + 96 * t + k)) (mi (o + 12)) k) (mi (o + 1) (94 + 96 * t + k)) := rfl
    rw [hrun] at ih
    generalize wDep (fun k => mi (o + 1) (94 + 96 * t + k)) k = dd at hwk hdp hle
    generalize wRun (mi (o + 13)) (fun k => mi (o + 1) (94 + 96 * t + k)) (mi (o + 12)) k = g at ih hdp ⊢
    obtain ⟨h, f⟩ := g
    simp only at hdp hwk
    subst hdp
    generalize hx : mi (o + 1) (94 + 96 * t + k) = x at ih hwk
    simp only at ih ⊢
    refine mw_iload dX7_worksOut_21 rfl ?_
    refine mw_iload_n dX7_worksOut_23 rfl ?_
    refine mw_icmp_ge (tgt := 155) dX7_worksOut_24 (by decide) (fun h24 => ?_) (fun h24 => ?_)
    · skip
      exact absurd h24 (nI_ge hk (by omega))
    · skip
      refine mw_aload_n dX7_worksOut_27 rfl ?_
      refine mw_getr dX7_worksOut_28 fl_X7_9 rfl (by assumption) (by assumption) ?_
      refine mw_bipush (v := 94) dX7_worksOut_31 (by decide) ?_
      refine mw_bipush (v := 96) dX7_worksOut_33 (by decide) ?_
      refine mw_iload_n dX7_worksOut_35 rfl ?_
      refine mw_imul dX7_worksOut_36 ?_
      refine mw_iadd dX7_worksOut_37 ?_
      refine mw_iload dX7_worksOut_38 rfl ?_
      refine mw_iadd dX7_worksOut_40 ?_
      refine mw_ialdK (k := 94 + 96 * t + k) dX7_worksOut_41 (by assumption) (ix94 t k) (by omega) (by decide) ?_
      rw [m_row_ne n1, hx]
      refine mw_istore dX7_worksOut_42 (by decide) ?_
      refine mw_iload dX7_worksOut_44 rfl ?_
      refine mw_if_lt (tgt := 85) dX7_worksOut_46 (by decide) (fun h46 => ?_) (fun h46 => ?_)
      · skip
        refine mw_iload dX7_worksOut_85 rfl ?_
        refine mw_bipush (v := (-10)) dX7_worksOut_87 (by decide) ?_
        refine mw_icmp_ne (tgt := 119) dX7_worksOut_89 (by decide) (fun h89 => ?_) (fun h89 => ?_)
        · skip
          have hh : 2 ≤ h := (hwk.1 h46).2 h89
          refine mw_iinc dX7_worksOut_119 rfl (by decide) (nI_dec (show 1 ≤ h by omega)) ?_
          refine mw_aload_n dX7_worksOut_122 rfl ?_
          refine mw_getr dX7_worksOut_123 fl_X7_45 rfl (by assumption) (by assumption) ?_
          refine mw_iload_n dX7_worksOut_126 rfl ?_
          refine mw_iconst (v := 1) dX7_worksOut_127 (by decide) ?_
          refine mw_isub dX7_worksOut_128 ?_
          refine mw_iload dX7_worksOut_129 rfl ?_
          refine mw_aload_n dX7_worksOut_131 rfl ?_
          refine mw_getr dX7_worksOut_132 fl_X7_45 rfl (by assumption) (by assumption) ?_
          refine mw_iload_n dX7_worksOut_135 rfl ?_
          refine mw_iconst (v := 1) dX7_worksOut_136 (by decide) ?_
          refine mw_isub dX7_worksOut_137 ?_
          refine mw_ialdK (k := h - 2) dX7_worksOut_138 (by assumption) (by rw [nI_sub1 (by omega)]; rfl) (by omega) (by decide) ?_
          rw [m_row_self]
          refine mw_aload_n dX7_worksOut_139 rfl ?_
          refine mw_getr dX7_worksOut_140 fl_X7_45 rfl (by assumption) (by assumption) ?_
          refine mw_iload_n dX7_worksOut_143 rfl ?_
          refine mw_ialdK (k := h - 1) dX7_worksOut_144 (by assumption) (rfl) (by omega) (by decide) ?_
          rw [m_row_self]
          refine mw_cSI (g := fX7_two) dX7_worksOut_145 ml_X7_259 mfX7_two (ok_X7_two) rfl rfl (Nat.le_of_ble_eq_true rfl) ⟨by decide, by decide⟩ ⟨by decide, by decide⟩ ?_
          refine mw_iastK (k := h - 2) dX7_worksOut_148 (by assumption) (by rw [nI_sub1 (by omega)]; rfl) (by omega) (by decide) ?_
          refine mw_iincK (k := k) dX7_worksOut_149 rfl rfl (by decide) ?_
          refine mw_goto (tgt := 21) dX7_worksOut_152 (by decide) ?_
          refine MW.back ih ?_
          simp [lsub, wStep, m_up_mrow, *] <;> grind
        · skip
          have hh : 1 ≤ h := (hwk.1 h46).1 h89
          refine mw_aload_n dX7_worksOut_92 rfl ?_
          refine mw_getr dX7_worksOut_93 fl_X7_45 rfl (by assumption) (by assumption) ?_
          refine mw_iload_n dX7_worksOut_96 rfl ?_
          refine mw_iconst (v := 1) dX7_worksOut_97 (by decide) ?_
          refine mw_isub dX7_worksOut_98 ?_
          refine mw_aload_n dX7_worksOut_99 rfl ?_
          refine mw_getr dX7_worksOut_100 fl_X7_45 rfl (by assumption) (by assumption) ?_
          refine mw_iload_n dX7_worksOut_103 rfl ?_
          refine mw_iconst (v := 1) dX7_worksOut_104 (by decide) ?_
          refine mw_isub dX7_worksOut_105 ?_
          refine mw_ialdK (k := h - 1) dX7_worksOut_106 (by assumption) (nI_sub1 hh) (by omega) (by decide) ?_
          rw [m_row_self]
          refine mw_if_ne (tgt := 114) dX7_worksOut_107 (by decide) (fun h107 => ?_) (fun h107 => ?_)
          · skip
            refine mw_iconst (v := 0) dX7_worksOut_114 (by decide) ?_
            refine mw_iastK (k := h - 1) dX7_worksOut_115 (by assumption) (nI_sub1 hh) (by omega) (by decide) ?_
            refine mw_goto (tgt := 149) dX7_worksOut_116 (by decide) ?_
            refine mw_iincK (k := k) dX7_worksOut_149 rfl rfl (by decide) ?_
            refine mw_goto (tgt := 21) dX7_worksOut_152 (by decide) ?_
            refine MW.back ih ?_
            simp [lsub, wStep, m_up_mrow, *] <;> grind
          · skip
            refine mw_iconst (v := 1) dX7_worksOut_110 (by decide) ?_
            refine mw_goto (tgt := 115) dX7_worksOut_111 (by decide) ?_
            refine mw_iastK (k := h - 1) dX7_worksOut_115 (by assumption) (nI_sub1 hh) (by omega) (by decide) ?_
            refine mw_goto (tgt := 149) dX7_worksOut_116 (by decide) ?_
            refine mw_iincK (k := k) dX7_worksOut_149 rfl rfl (by decide) ?_
            refine mw_goto (tgt := 21) dX7_worksOut_152 (by decide) ?_
            refine MW.back ih ?_
            simp [lsub, wStep, m_up_mrow, *] <;> grind
      · skip
        refine mw_aload_n dX7_worksOut_49 rfl ?_
        refine mw_getr dX7_worksOut_50 fl_X7_45 rfl (by assumption) (by assumption) ?_
        refine mw_iload_n dX7_worksOut_53 rfl ?_
        refine mw_iload dX7_worksOut_54 rfl ?_
        refine mw_sipush (v := 10000) dX7_worksOut_56 (by decide) ?_
        refine mw_icmp_ge (tgt := 67) dX7_worksOut_59 (by decide) (fun h59 => ?_) (fun h59 => ?_)
        · skip
          refine mw_aload_n dX7_worksOut_67 rfl ?_
          refine mw_getr dX7_worksOut_68 fl_X7_48 rfl (by assumption) (by assumption) ?_
          refine mw_iload dX7_worksOut_71 rfl ?_
          refine mw_sipush (v := 10000) dX7_worksOut_73 (by decide) ?_
          refine mw_isub dX7_worksOut_76 ?_
          refine mw_iald dX7_worksOut_77 k_o_facts (hwk.2 h59) ?_
          rw [m_row_ne n13]
          refine mw_iastK (k := h) dX7_worksOut_78 (by assumption) (rfl) (by omega) (by decide) ?_
          refine mw_iincK (k := h) dX7_worksOut_79 rfl rfl (by decide) ?_
          refine mw_goto (tgt := 149) dX7_worksOut_82 (by decide) ?_
          refine mw_iincK (k := k) dX7_worksOut_149 rfl rfl (by decide) ?_
          refine mw_goto (tgt := 21) dX7_worksOut_152 (by decide) ?_
          refine MW.back ih ?_
          simp [lsub, wStep, m_up_mrow, *] <;> grind
        · skip
          refine mw_iload dX7_worksOut_62 rfl ?_
          refine mw_goto (tgt := 78) dX7_worksOut_64 (by decide) ?_
          refine mw_iastK (k := h) dX7_worksOut_78 (by assumption) (rfl) (by omega) (by decide) ?_
          refine mw_iincK (k := h) dX7_worksOut_79 rfl rfl (by decide) ?_
          refine mw_goto (tgt := 149) dX7_worksOut_82 (by decide) ?_
          refine mw_iincK (k := k) dX7_worksOut_149 rfl rfl (by decide) ?_
          refine mw_goto (tgt := 21) dX7_worksOut_152 (by decide) ?_
          refine MW.back ih ?_
          simp [lsub, wStep, m_up_mrow, *] <;> grind)
  refine mw_iconst (v := 0) dX7_worksOut_0 (by decide) ?_
  refine mw_istN 2 dX7_worksOut_1 rfl (by decide) ?_
  refine mw_aload_n dX7_worksOut_2 rfl ?_
  refine mw_getr dX7_worksOut_3 fl_X7_9 rfl (by assumption) (by assumption) ?_
  refine mw_bipush (v := 66) dX7_worksOut_6 (by decide) ?_
  refine mw_iconst (v := 2) dX7_worksOut_8 (by decide) ?_
  refine mw_iload_n dX7_worksOut_9 rfl ?_
  refine mw_imul dX7_worksOut_10 ?_
  refine mw_iadd dX7_worksOut_11 ?_
  refine mw_ialdK (k := 66 + 2 * t) dX7_worksOut_12 (by assumption) (ix66 t) (by omega) (by decide) ?_
  refine mw_sipush (v := 1000) dX7_worksOut_13 (by decide) ?_
  refine mw_irem dX7_worksOut_16 (by decide) ?_
  rw [hn]
  refine mw_istN 3 dX7_worksOut_17 rfl (by decide) ?_
  refine mw_iconst (v := 0) dX7_worksOut_18 (by decide) ?_
  refine mw_istore dX7_worksOut_19 (by decide) ?_
  refine MW.back lp ⟨by simp [lsub, nI_0, wRun], rfl, rfl, ?_⟩
  simp only [wRun, m_row_id]
